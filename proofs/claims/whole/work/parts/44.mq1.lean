/-! THE MODEL'S QUESTIONS -/
theorem jX10_count {v : zV} {x : Int32} {Q : Option Value → zM → Prop} {X : String → zM → Prop} {M : zM} (hA : zRA M 119 v) (hW : zWF v) (hd : M.1 118 4 = nI 0) (h : ∀ M', zQm M M' → M'.1 118 0 = nI (a_count v x).1 → Q (some (.int (a_count v x).2)) M') : zJ yX10_count cX10_count 2 (some .int) rX10_count Q X rX10_count.cells rX10_count.slots 0 (zEnt 2 [.ref 118, .int x]) [] M := by
  have h6 := hW.nN
  have h7 := hW.tN
  have h8 := hW.gN
  have h9 := hW.hN
  show zJ yX10_count cX10_count 2 (some .int) rX10_count Q X 0 0 0 [some (.ref 118), some (.int x)] [] M
  refine zj_aload0 (n := 1) rfl dX10_count_0 ?_
  refine zj_iload1 (n := 2) rfl dX10_count_1 ?_
  refine zj_i2l (n := 3) rfl dX10_count_2 ?_
  refine zj_lconstN_0 (n := 4) rfl dX10_count_3 ?_
  refine zj_ldc2N (v := 2) (n := 7) rfl dX10_count_4 zc_X10_385 ?_
  refine zj_callS3 (n := 10) (a' := 0) (b' := 0) rfl dX10_count_7 zm_X10_62 (by decide) (Nat.le_of_ble_eq_true rfl) (Nat.le_of_ble_eq_true rfl) (Nat.le_of_ble_eq_true rfl) (Nat.le_of_ble_eq_true rfl) (jX10_inB (k := 2) (by decide) ?_)
  refine zj_callV1 (n := 13) (a' := 0) (b' := 0) rfl dX10_count_10 zm_X10_216 (by decide) (by decide) rfl (Nat.le_of_ble_eq_true rfl) (Nat.le_of_ble_eq_true rfl) (Nat.le_of_ble_eq_true rfl) (Nat.le_of_ble_eq_true rfl) (jX10_passesQ ?_)
  intro M1 hQ1 hF1 hL1 h118 ht1
  have hA1 := hQ1.ra hA
  have hd1 := hQ1.td hd
  refine zj_ifB_eq (n := 16) (tgt := 28) rfl dX10_count_13 (by decide) (fun c13 => ?_) (fun c13 => ?_)
  · refine zj_iconstN_0 (n := 29) rfl dX10_count_28 ?_
    refine zj_ireturn dX10_count_29 rfl rfl ?_
    simp only [a_count, c13, if_true, if_false, Bool.false_eq_true, Bool.and_true, Bool.and_false, Bool.true_and, Bool.false_and] at h
    exact h M1 hQ1 (by rw [ht1, c13]; rfl)
  · obtain ⟨n, hn, rfl⟩ := (zin_iff (by omega)).mp c13
    refine zj_aload0 (n := 17) rfl dX10_count_16 ?_
    refine zj_getr (n := 20) (q := 119) rfl dX10_count_17 zf_X10_17 rfl (by decide) (by decide) rfl ?_
    refine zj_bipushN (v := 6) (n := 22) rfl dX10_count_20 (by decide) ?_
    refine zj_iload1 (n := 23) rfl dX10_count_22 ?_
    refine zj_iaddN (n := 24) rfl dX10_count_23 ?_
    refine zj_ialoadN (e := v (6 + n)) (n := 25) rfl dX10_count_24 (by decide) (by decide) (by rw [show zLen 119 = 698 from rfl]; omega) (hA1.2.2 _ (by omega)) ?_
    refine zj_goto (tgt := 29) dX10_count_25 (by decide) ?_
    refine zj_ireturn dX10_count_29 rfl rfl ?_
    simp only [a_count, c13, if_true, if_false, Bool.false_eq_true, Bool.and_true, Bool.and_false, Bool.true_and, Bool.false_and, xn_at (show n < 2 ^ 31 by omega)] at h
    exact h M1 hQ1 (by rw [ht1, c13]; rfl)
theorem jX10_node {v : zV} {x : Int32} {z : Int32} {Q : Option Value → zM → Prop} {X : String → zM → Prop} {M : zM} (hA : zRA M 119 v) (hW : zWF v) (hd : M.1 118 4 = nI 0) (h : ∀ M', zQm M M' → M'.1 118 0 = nI (a_node v x z).1 → Q (some (.int (a_node v x z).2)) M') : zJ yX10_node cX10_node 3 (some .int) rX10_node Q X rX10_node.cells rX10_node.slots 0 (zEnt 3 [.ref 118, .int x, .int z]) [] M := by
  have h6 := hW.nN
  have h7 := hW.tN
  have h8 := hW.gN
  have h9 := hW.hN
  show zJ yX10_node cX10_node 3 (some .int) rX10_node Q X 0 0 0 [some (.ref 118), some (.int x), some (.int z)] [] M
  refine zj_aload0 (n := 1) rfl dX10_node_0 ?_
  refine zj_aload0 (n := 2) rfl dX10_node_1 ?_
  refine zj_iload1 (n := 3) rfl dX10_node_2 ?_
  refine zj_callV1 (n := 6) (a' := 0) (b' := 0) rfl dX10_node_3 zm_X10_390 (by decide) (by decide) rfl (Nat.le_of_ble_eq_true rfl) (Nat.le_of_ble_eq_true rfl) (Nat.le_of_ble_eq_true rfl) (Nat.le_of_ble_eq_true rfl) (jX10_isNode hA (by omega) ?_)
  refine zj_iload2 (n := 7) rfl dX10_node_6 ?_
  refine zj_i2l (n := 8) rfl dX10_node_7 ?_
  refine zj_lconstN_0 (n := 9) rfl dX10_node_8 ?_
  refine zj_ldc2N (v := 6) (n := 12) rfl dX10_node_9 zc_X10_393 ?_
  refine zj_callS3 (n := 15) (a' := 0) (b' := 0) rfl dX10_node_12 zm_X10_62 (by decide) (Nat.le_of_ble_eq_true rfl) (Nat.le_of_ble_eq_true rfl) (Nat.le_of_ble_eq_true rfl) (Nat.le_of_ble_eq_true rfl) (jX10_inB (k := 6) (by decide) ?_)
  refine zj_callV2 (n := 18) (a' := 0) (b' := 0) rfl dX10_node_15 zm_X10_395 (by decide) (by decide) rfl (Nat.le_of_ble_eq_true rfl) (Nat.le_of_ble_eq_true rfl) (Nat.le_of_ble_eq_true rfl) (Nat.le_of_ble_eq_true rfl) (jX10_passes2Q ?_)
  intro M1 hQ1 hF1 hL1 h118 ht1
  have hA1 := hQ1.ra hA
  have hd1 := hQ1.td hd
  refine zj_ifB_ne (n := 21) (tgt := 23) rfl dX10_node_18 (by decide) (fun c18 => ?_) (fun c18 => ?_)
  · obtain ⟨d1, d2⟩ := (Bool.and_eq_true _ _).mp c18
    obtain ⟨n, hn, rfl⟩ := (zin_iff (by omega)).mp d1
    obtain ⟨k, hk, rfl⟩ := (zin_iff (by decide)).mp d2
    refine zj_iload2 (n := 24) rfl dX10_node_23 ?_
    refine zj_iconstN_4 (n := 25) rfl dX10_node_24 ?_
    refine zj_icmpN_ne (n := 28) (tgt := 38) rfl dX10_node_25 (by decide) (by omega) (by omega) (fun c25 => ?_) (fun c25 => ?_)
    · refine zj_aload0 (n := 39) rfl dX10_node_38 ?_
      refine zj_iload1 (n := 40) rfl dX10_node_39 ?_
      refine zj_iload2 (n := 41) rfl dX10_node_40 ?_
      refine zj_iconstN_4 (n := 42) rfl dX10_node_41 ?_
      refine zj_icmpN_ge (n := 45) (tgt := 49) rfl dX10_node_42 (by decide) (by omega) (by omega) (fun c42 => ?_) (fun c42 => ?_)
      · refine zj_iload2 (n := 50) rfl dX10_node_49 ?_
        refine zj_iconstN_1 (n := 51) rfl dX10_node_50 ?_
        refine zj_isubN (n := 52) rfl dX10_node_51 (by omega) ?_
        refine zj_callV2 (n := 55) (a' := 0) (b' := 0) rfl dX10_node_52 zm_X10_77 (by decide) (by decide) rfl (Nat.le_of_ble_eq_true rfl) (Nat.le_of_ble_eq_true rfl) (Nat.le_of_ble_eq_true rfl) (Nat.le_of_ble_eq_true rfl) (jX10_nodeValue (c := k - 1) hA1 (by omega) ?_)
        refine zj_ireturn dX10_node_55 rfl rfl ?_
        simp only [a_node, d1, d2, if_true, if_false, Bool.false_eq_true, Bool.and_true, Bool.and_false, Bool.true_and, Bool.false_and, xn_at (show n < 2 ^ 31 by omega), xn_at (show k < 2 ^ 31 by omega)] at h
        rw [if_neg c25, if_neg (by omega)] at h
        exact h M1 hQ1 (by rw [ht1, d1, d2]; rfl)
      · refine zj_iload2 (n := 46) rfl dX10_node_45 ?_
        refine zj_goto (tgt := 52) dX10_node_46 (by decide) ?_
        refine zj_callV2 (n := 55) (a' := 0) (b' := 0) rfl dX10_node_52 zm_X10_77 (by decide) (by decide) rfl (Nat.le_of_ble_eq_true rfl) (Nat.le_of_ble_eq_true rfl) (Nat.le_of_ble_eq_true rfl) (Nat.le_of_ble_eq_true rfl) (jX10_nodeValue (c := k) hA1 (by omega) ?_)
        refine zj_ireturn dX10_node_55 rfl rfl ?_
        simp only [a_node, d1, d2, if_true, if_false, Bool.false_eq_true, Bool.and_true, Bool.and_false, Bool.true_and, Bool.false_and, xn_at (show n < 2 ^ 31 by omega), xn_at (show k < 2 ^ 31 by omega)] at h
        rw [if_neg c25, if_pos c42] at h
        exact h M1 hQ1 (by rw [ht1, d1, d2]; rfl)
    · refine zj_aload0 (n := 29) rfl dX10_node_28 ?_
      refine zj_iload1 (n := 30) rfl dX10_node_29 ?_
      refine zj_iconstN_0 (n := 31) rfl dX10_node_30 ?_
      refine zj_iconstN_0 (n := 32) rfl dX10_node_31 ?_
      refine zj_callV3 (n := 35) (a' := 0) (b' := 0) rfl dX10_node_32 zm_X10_87 (by decide) (by decide) rfl (Nat.le_of_ble_eq_true rfl) (Nat.le_of_ble_eq_true rfl) (Nat.le_of_ble_eq_true rfl) (Nat.le_of_ble_eq_true rfl) (jX10_shardsOn (more := 0) (few := 0) hA1 h8 (fun g hg => (hW.sh hg).2) (fun g s hg hs => by have := hW.holds hg hs; omega) (by decide) (by decide) (fun s hs => absurd hs (Nat.not_lt_zero s)) (by omega) ?_)
      refine zj_goto (tgt := 55) dX10_node_35 (by decide) ?_
      refine zj_ireturn dX10_node_55 rfl rfl ?_
      simp only [a_node, d1, d2, if_true, if_false, Bool.false_eq_true, Bool.and_true, Bool.and_false, Bool.true_and, Bool.false_and, xn_at (show n < 2 ^ 31 by omega), xn_at (show k < 2 ^ 31 by omega)] at h
      rw [if_pos c25] at h
      exact h M1 hQ1 (by rw [ht1, d1, d2]; rfl)
  · refine zj_iconstN_0 (n := 22) rfl dX10_node_21 ?_
    refine zj_ireturn dX10_node_22 rfl rfl ?_
    cases d1 : zin x (v 6) with
    | false =>
      simp only [a_node, d1, if_true, if_false, Bool.false_eq_true, Bool.and_true, Bool.and_false, Bool.true_and, Bool.false_and] at h
      exact h M1 hQ1 (by rw [ht1, d1]; rfl)
    | true =>
      have d2 : zin z 7 = false := by rw [d1, Bool.true_and] at c18; exact c18
      simp only [a_node, d1, d2, if_true, if_false, Bool.false_eq_true, Bool.and_true, Bool.and_false, Bool.true_and, Bool.false_and] at h
      exact h M1 hQ1 (by rw [ht1, d1, d2]; rfl)
theorem jX10_groupsOn {v : zV} {x : Int32} {Q : Option Value → zM → Prop} {X : String → zM → Prop} {M : zM} (hA : zRA M 119 v) (hW : zWF v) (hd : M.1 118 4 = nI 0) (h : ∀ M', zQm M M' → M'.1 118 0 = nI (a_groupsOn v x).1 → Q (some (.int (a_groupsOn v x).2)) M') : zJ yX10_groupsOn cX10_groupsOn 4 (some .int) rX10_groupsOn Q X rX10_groupsOn.cells rX10_groupsOn.slots 0 (zEnt 4 [.ref 118, .int x]) [] M := by
  have h6 := hW.nN
  have h7 := hW.tN
  have h8 := hW.gN
  have h9 := hW.hN
  show zJ yX10_groupsOn cX10_groupsOn 4 (some .int) rX10_groupsOn Q X 0 0 0 [some (.ref 118), some (.int x), none, none] [] M
  refine zj_aload0 (n := 1) rfl dX10_groupsOn_0 ?_
  refine zj_aload0 (n := 2) rfl dX10_groupsOn_1 ?_
  refine zj_iload1 (n := 3) rfl dX10_groupsOn_2 ?_
  refine zj_callV1 (n := 6) (a' := 0) (b' := 0) rfl dX10_groupsOn_3 zm_X10_390 (by decide) (by decide) rfl (Nat.le_of_ble_eq_true rfl) (Nat.le_of_ble_eq_true rfl) (Nat.le_of_ble_eq_true rfl) (Nat.le_of_ble_eq_true rfl) (jX10_isNode hA (by omega) ?_)
  refine zj_callV1 (n := 9) (a' := 0) (b' := 0) rfl dX10_groupsOn_6 zm_X10_216 (by decide) (by decide) rfl (Nat.le_of_ble_eq_true rfl) (Nat.le_of_ble_eq_true rfl) (Nat.le_of_ble_eq_true rfl) (Nat.le_of_ble_eq_true rfl) (jX10_passesQ ?_)
  intro M1 hQ1 hF1 hL1 h118 ht1
  have hA1 := hQ1.ra hA
  have hd1 := hQ1.td hd
  refine zj_ifB_ne (n := 12) (tgt := 14) rfl dX10_groupsOn_9 (by decide) (fun c9 => ?_) (fun c9 => ?_)
  · obtain ⟨n, hn, rfl⟩ := (zin_iff (by omega)).mp c9
    refine zj_iconstN_0 (n := 15) rfl dX10_groupsOn_14 ?_
    refine zj_istore2 (n := 16) rfl dX10_groupsOn_15 rfl (Nat.le_of_ble_eq_true rfl) ?_
    refine zj_iconstN_0 (n := 17) rfl dX10_groupsOn_16 ?_
    refine zj_istore3 (n := 18) rfl dX10_groupsOn_17 rfl (Nat.le_of_ble_eq_true rfl) ?_
    refine zFor_rule (P := fun g (_ : Unit) => ∀ m, m = zMask g (fun g => vhas v g (vsh v g) n) → zJ yX10_groupsOn cX10_groupsOn 4 (some .int) rX10_groupsOn Q X 0 0 18 [some (.ref 118), some (.int (nI n)), some (.int (nI m)), some (.int (nI g))] [] M1) (n := v 8) (f := fun _ s => s) (s0 := ()) ?_ ?_ 0 rfl
    · intro g _ hg hk m hm
      refine zj_iload3 (n := 19) rfl dX10_groupsOn_18 ?_
      refine zj_aload0 (n := 20) rfl dX10_groupsOn_19 ?_
      refine zj_getr (n := 23) (q := 119) rfl dX10_groupsOn_20 zf_X10_17 rfl (by decide) (by decide) rfl ?_
      refine zj_bipushN (v := 8) (n := 25) rfl dX10_groupsOn_23 (by decide) ?_
      refine zj_ialoadN (e := v 8) (n := 26) rfl dX10_groupsOn_25 (by decide) (by decide) (by rw [show zLen 119 = 698 from rfl]; omega) (hA1.2.2 _ (by omega)) ?_
      refine zj_icmpN_ge (n := 29) (tgt := 59) rfl dX10_groupsOn_26 (by decide) (by omega) (by omega) (fun c26 => by omega) (fun c26 => ?_)
      refine zj_iload2 (n := 30) rfl dX10_groupsOn_29 ?_
      refine zj_aload0 (n := 31) rfl dX10_groupsOn_30 ?_
      refine zj_iload3 (n := 32) rfl dX10_groupsOn_31 ?_
      refine zj_aload0 (n := 33) rfl dX10_groupsOn_32 ?_
      refine zj_iload3 (n := 34) rfl dX10_groupsOn_33 ?_
      refine zj_callV1 (n := 37) (a' := 0) (b' := 0) rfl dX10_groupsOn_34 zm_X10_70 (by decide) (by decide) rfl (Nat.le_of_ble_eq_true rfl) (Nat.le_of_ble_eq_true rfl) (Nat.le_of_ble_eq_true rfl) (Nat.le_of_ble_eq_true rfl) (jX10_shardsOf hA1 (by omega) ?_)
      refine zj_iload1 (n := 38) rfl dX10_groupsOn_37 ?_
      refine zj_callV3 (n := 41) (a' := 0) (b' := 0) rfl dX10_groupsOn_38 zm_X10_83 (by decide) (by decide) rfl (Nat.le_of_ble_eq_true rfl) (Nat.le_of_ble_eq_true rfl) (Nat.le_of_ble_eq_true rfl) (Nat.le_of_ble_eq_true rfl) (jX10_hasShardOn hA1 (by omega) (by have := (hW.sh hg).2; omega) (fun s hs => by have := hW.holds hg hs; omega) (by omega) ?_)
      refine zj_ifB_eq (n := 44) (tgt := 50) rfl dX10_groupsOn_41 (by decide) (fun c41 => ?_) (fun c41 => ?_)
      · refine zj_iconstN_0 (n := 51) rfl dX10_groupsOn_50 ?_
        refine zj_ior (n := 52) rfl dX10_groupsOn_51 ?_
        refine zj_istore2 (n := 53) rfl dX10_groupsOn_52 rfl (Nat.le_of_ble_eq_true rfl) ?_
        refine zj_iincN3 (n := 56) rfl dX10_groupsOn_53 rfl (Nat.le_of_ble_eq_true rfl) ?_
        refine zj_goto (tgt := 18) dX10_groupsOn_56 (by decide) ?_
        rw [show nI m ||| nI 0 = nI m from zor0 _]
        exact hk _ (zmn hm (by assumption))
      · refine zj_iconstN_1 (n := 45) rfl dX10_groupsOn_44 ?_
        refine zj_iload3 (n := 46) rfl dX10_groupsOn_45 ?_
        refine zj_ishlN1 (n := 47) rfl dX10_groupsOn_46 (by omega) ?_
        refine zj_goto (tgt := 51) dX10_groupsOn_47 (by decide) ?_
        refine zj_ior (n := 52) rfl dX10_groupsOn_51 ?_
        refine zj_istore2 (n := 53) rfl dX10_groupsOn_52 rfl (Nat.le_of_ble_eq_true rfl) ?_
        refine zj_iincN3 (n := 56) rfl dX10_groupsOn_53 rfl (Nat.le_of_ble_eq_true rfl) ?_
        refine zj_goto (tgt := 18) dX10_groupsOn_56 (by decide) ?_
        rw [zmi hm (p := fun g => vhas v g (vsh v g) n) (by assumption) (by omega)]
        exact hk _ rfl
    · intro m hm
      refine zj_iload3 (n := 19) rfl dX10_groupsOn_18 ?_
      refine zj_aload0 (n := 20) rfl dX10_groupsOn_19 ?_
      refine zj_getr (n := 23) (q := 119) rfl dX10_groupsOn_20 zf_X10_17 rfl (by decide) (by decide) rfl ?_
      refine zj_bipushN (v := 8) (n := 25) rfl dX10_groupsOn_23 (by decide) ?_
      refine zj_ialoadN (e := v 8) (n := 26) rfl dX10_groupsOn_25 (by decide) (by decide) (by rw [show zLen 119 = 698 from rfl]; omega) (hA1.2.2 _ (by omega)) ?_
      refine zj_icmpN_ge (n := 29) (tgt := 59) rfl dX10_groupsOn_26 (by decide) (by omega) (by omega) (fun c26 => ?_) (fun c26 => by omega)
      refine zj_iload2 (n := 60) rfl dX10_groupsOn_59 ?_
      refine zj_ireturn dX10_groupsOn_60 rfl rfl ?_
      simp only [a_groupsOn, c9, if_true, if_false, Bool.false_eq_true, Bool.and_true, Bool.and_false, Bool.true_and, Bool.false_and, xn_at (show n < 2 ^ 31 by omega)] at h
      exact (by rw [← hm] at h; exact h M1 hQ1 (by rw [ht1, c9]; rfl))
  · refine zj_iconstN_0 (n := 13) rfl dX10_groupsOn_12 ?_
    refine zj_ireturn dX10_groupsOn_13 rfl rfl ?_
    simp only [a_groupsOn, c9, if_true, if_false, Bool.false_eq_true, Bool.and_true, Bool.and_false, Bool.true_and, Bool.false_and] at h
    exact h M1 hQ1 (by rw [ht1, c9]; rfl)
theorem jX10_nodeFrom {v : zV} {x : Int32} {Q : Option Value → zM → Prop} {X : String → zM → Prop} {M : zM} (hA : zRA M 119 v) (hW : zWF v) (hd : M.1 118 4 = nI 0) (h : ∀ M', zQm M M' → M'.1 118 0 = nI (a_nodeFrom v x).1 → Q (some (.int (a_nodeFrom v x).2)) M') : zJ yX10_nodeFrom cX10_nodeFrom 2 (some .int) rX10_nodeFrom Q X rX10_nodeFrom.cells rX10_nodeFrom.slots 0 (zEnt 2 [.ref 118, .int x]) [] M := by
  have h6 := hW.nN
  have h7 := hW.tN
  have h8 := hW.gN
  have h9 := hW.hN
  show zJ yX10_nodeFrom cX10_nodeFrom 2 (some .int) rX10_nodeFrom Q X 0 0 0 [some (.ref 118), some (.int x)] [] M
  refine zj_aload0 (n := 1) rfl dX10_nodeFrom_0 ?_
  refine zj_iload1 (n := 2) rfl dX10_nodeFrom_1 ?_
  refine zj_i2l (n := 3) rfl dX10_nodeFrom_2 ?_
  refine zj_lconstN_0 (n := 4) rfl dX10_nodeFrom_3 ?_
  refine zj_ldc2N (v := 9999) (n := 7) rfl dX10_nodeFrom_4 zc_X10_141 ?_
  refine zj_callS3 (n := 10) (a' := 0) (b' := 0) rfl dX10_nodeFrom_7 zm_X10_62 (by decide) (Nat.le_of_ble_eq_true rfl) (Nat.le_of_ble_eq_true rfl) (Nat.le_of_ble_eq_true rfl) (Nat.le_of_ble_eq_true rfl) (jX10_inB (k := 9999) (by decide) ?_)
  refine zj_callV1 (n := 13) (a' := 0) (b' := 0) rfl dX10_nodeFrom_10 zm_X10_216 (by decide) (by decide) rfl (Nat.le_of_ble_eq_true rfl) (Nat.le_of_ble_eq_true rfl) (Nat.le_of_ble_eq_true rfl) (Nat.le_of_ble_eq_true rfl) (jX10_passesQ ?_)
  intro M1 hQ1 hF1 hL1 h118 ht1
  have hA1 := hQ1.ra hA
  have hd1 := hQ1.td hd
  refine zj_ifB_eq (n := 16) (tgt := 24) rfl dX10_nodeFrom_13 (by decide) (fun c13 => ?_) (fun c13 => ?_)
  · refine zj_iconstN_0 (n := 25) rfl dX10_nodeFrom_24 ?_
    refine zj_ireturn dX10_nodeFrom_25 rfl rfl ?_
    simp only [a_nodeFrom, c13, if_true, if_false, Bool.false_eq_true, Bool.and_true, Bool.and_false, Bool.true_and, Bool.false_and] at h
    exact h M1 hQ1 (by rw [ht1, c13]; rfl)
  · obtain ⟨n, hn, rfl⟩ := (zin_iff (by omega)).mp c13
    refine zj_aload0 (n := 17) rfl dX10_nodeFrom_16 ?_
    refine zj_iload1 (n := 18) rfl dX10_nodeFrom_17 ?_
    refine zj_callV1 (n := 21) (a' := 0) (b' := 0) rfl dX10_nodeFrom_18 zm_X10_80 (by decide) (by decide) rfl (Nat.le_of_ble_eq_true rfl) (Nat.le_of_ble_eq_true rfl) (Nat.le_of_ble_eq_true rfl) (Nat.le_of_ble_eq_true rfl) (jX10_nodeAtOrBehind hA1 h6 (fun m hm => by have := (hW.node hm).1; omega) (by omega) ?_)
    refine zj_goto (tgt := 25) dX10_nodeFrom_21 (by decide) ?_
    refine zj_ireturn dX10_nodeFrom_25 rfl rfl ?_
    simp only [a_nodeFrom, c13, if_true, if_false, Bool.false_eq_true, Bool.and_true, Bool.and_false, Bool.true_and, Bool.false_and, xn_at (show n < 2 ^ 31 by omega)] at h
    exact h M1 hQ1 (by rw [ht1, c13]; rfl)
theorem jX10_clockwise {v : zV} {x : Int32} {z : Int32} {Q : Option Value → zM → Prop} {X : String → zM → Prop} {M : zM} (hA : zRA M 119 v) (hW : zWF v) (hd : M.1 118 4 = nI 0) (h : ∀ M', zQm M M' → M'.1 118 0 = nI (a_clockwise v x z).1 → Q (some (.int (a_clockwise v x z).2)) M') : zJ yX10_clockwise cX10_clockwise 3 (some .int) rX10_clockwise Q X rX10_clockwise.cells rX10_clockwise.slots 0 (zEnt 3 [.ref 118, .int x, .int z]) [] M := by
  have h6 := hW.nN
  have h7 := hW.tN
  have h8 := hW.gN
  have h9 := hW.hN
  show zJ yX10_clockwise cX10_clockwise 3 (some .int) rX10_clockwise Q X 0 0 0 [some (.ref 118), some (.int x), some (.int z)] [] M
  refine zj_aload0 (n := 1) rfl dX10_clockwise_0 ?_
  refine zj_aload0 (n := 2) rfl dX10_clockwise_1 ?_
  refine zj_iload1 (n := 3) rfl dX10_clockwise_2 ?_
  refine zj_callV1 (n := 6) (a' := 0) (b' := 0) rfl dX10_clockwise_3 zm_X10_390 (by decide) (by decide) rfl (Nat.le_of_ble_eq_true rfl) (Nat.le_of_ble_eq_true rfl) (Nat.le_of_ble_eq_true rfl) (Nat.le_of_ble_eq_true rfl) (jX10_isNode hA (by omega) ?_)
  refine zj_ifB_eq (n := 9) (tgt := 21) rfl dX10_clockwise_6 (by decide) (fun c6 => ?_) (fun c6 => ?_)
  · refine zj_iconstN_0 (n := 22) rfl dX10_clockwise_21 ?_
    refine zj_callV1 (n := 25) (a' := 0) (b' := 0) rfl dX10_clockwise_22 zm_X10_216 (by decide) (by decide) rfl (Nat.le_of_ble_eq_true rfl) (Nat.le_of_ble_eq_true rfl) (Nat.le_of_ble_eq_true rfl) (Nat.le_of_ble_eq_true rfl) (jX10_passesQ (p := false) ?_)
    intro M1 hQ1 hF1 hL1 h118 ht1
    have hA1 := hQ1.ra hA
    have hd1 := hQ1.td hd
    rw [show zb false = nI 0 from rfl]
    refine zj_ifN_eq (n := 28) (tgt := 52) rfl dX10_clockwise_25 (by decide) (by omega) (fun _ => ?_) (fun h => absurd h (by decide))
    refine zj_iconstN_0 (n := 53) rfl dX10_clockwise_52 ?_
    refine zj_ireturn dX10_clockwise_53 rfl rfl ?_
    simp only [a_clockwise, c6, if_true, if_false, Bool.false_eq_true, Bool.and_true, Bool.and_false, Bool.true_and, Bool.false_and] at h
    exact h M1 hQ1 (by rw [ht1]; rfl)
  · obtain ⟨n, hn, rfl⟩ := (zin_iff (by omega)).mp c6
    refine zj_aload0 (n := 10) rfl dX10_clockwise_9 ?_
    refine zj_iload2 (n := 11) rfl dX10_clockwise_10 ?_
    refine zj_callV1 (n := 14) (a' := 0) (b' := 0) rfl dX10_clockwise_11 zm_X10_390 (by decide) (by decide) rfl (Nat.le_of_ble_eq_true rfl) (Nat.le_of_ble_eq_true rfl) (Nat.le_of_ble_eq_true rfl) (Nat.le_of_ble_eq_true rfl) (jX10_isNode hA (by omega) ?_)
    refine zj_ifB_eq (n := 17) (tgt := 21) rfl dX10_clockwise_14 (by decide) (fun c14 => ?_) (fun c14 => ?_)
    · refine zj_iconstN_0 (n := 22) rfl dX10_clockwise_21 ?_
      refine zj_callV1 (n := 25) (a' := 0) (b' := 0) rfl dX10_clockwise_22 zm_X10_216 (by decide) (by decide) rfl (Nat.le_of_ble_eq_true rfl) (Nat.le_of_ble_eq_true rfl) (Nat.le_of_ble_eq_true rfl) (Nat.le_of_ble_eq_true rfl) (jX10_passesQ (p := false) ?_)
      intro M1 hQ1 hF1 hL1 h118 ht1
      have hA1 := hQ1.ra hA
      have hd1 := hQ1.td hd
      rw [show zb false = nI 0 from rfl]
      refine zj_ifN_eq (n := 28) (tgt := 52) rfl dX10_clockwise_25 (by decide) (by omega) (fun _ => ?_) (fun h => absurd h (by decide))
      refine zj_iconstN_0 (n := 53) rfl dX10_clockwise_52 ?_
      refine zj_ireturn dX10_clockwise_53 rfl rfl ?_
      simp only [a_clockwise, c6, c14, if_true, if_false, Bool.false_eq_true, Bool.and_true, Bool.and_false, Bool.true_and, Bool.false_and] at h
      exact h M1 hQ1 (by rw [ht1]; rfl)
    · obtain ⟨k, hk, rfl⟩ := (zin_iff (by omega)).mp c14
      refine zj_iconstN_1 (n := 18) rfl dX10_clockwise_17 ?_
      refine zj_goto (tgt := 22) dX10_clockwise_18 (by decide) ?_
      refine zj_callV1 (n := 25) (a' := 0) (b' := 0) rfl dX10_clockwise_22 zm_X10_216 (by decide) (by decide) rfl (Nat.le_of_ble_eq_true rfl) (Nat.le_of_ble_eq_true rfl) (Nat.le_of_ble_eq_true rfl) (Nat.le_of_ble_eq_true rfl) (jX10_passesQ (p := true) ?_)
      intro M1 hQ1 hF1 hL1 h118 ht1
      have hA1 := hQ1.ra hA
      have hd1 := hQ1.td hd
      rw [show zb true = nI 1 from rfl]
      refine zj_ifN_eq (n := 28) (tgt := 52) rfl dX10_clockwise_25 (by decide) (by omega) (fun h => absurd h (by decide)) (fun _ => ?_)
      refine zj_aload0 (n := 29) rfl dX10_clockwise_28 ?_
      refine zj_iload2 (n := 30) rfl dX10_clockwise_29 ?_
      refine zj_iconstN_0 (n := 31) rfl dX10_clockwise_30 ?_
      refine zj_callV2 (n := 34) (a' := 0) (b' := 0) rfl dX10_clockwise_31 zm_X10_77 (by decide) (by decide) rfl (Nat.le_of_ble_eq_true rfl) (Nat.le_of_ble_eq_true rfl) (Nat.le_of_ble_eq_true rfl) (Nat.le_of_ble_eq_true rfl) (jX10_nodeValue (c := 0) hA1 (by omega) ?_)
      refine zj_aload0 (n := 35) rfl dX10_clockwise_34 ?_
      refine zj_iload1 (n := 36) rfl dX10_clockwise_35 ?_
      refine zj_iconstN_0 (n := 37) rfl dX10_clockwise_36 ?_
      refine zj_callV2 (n := 40) (a' := 0) (b' := 0) rfl dX10_clockwise_37 zm_X10_77 (by decide) (by decide) rfl (Nat.le_of_ble_eq_true rfl) (Nat.le_of_ble_eq_true rfl) (Nat.le_of_ble_eq_true rfl) (Nat.le_of_ble_eq_true rfl) (jX10_nodeValue (c := 0) hA1 (by omega) ?_)
      have b1 : v (10 + 12 * n + 0) ≤ 9999 := (hW.node hn).1
      have b2 : v (10 + 12 * k + 0) ≤ 9999 := (hW.node hk).1
      refine zj_isub (n := 41) rfl dX10_clockwise_40 ?_
      refine zj_sipushN (v := 10000) (n := 44) rfl dX10_clockwise_41 (by decide) ?_
      have em : ∀ (x : Int32), x + nI 10000 - (x + nI 10000) / nI 10000 * nI 10000 = x + nI 10000 - (x + nI 10000) / nI 10000 * nI 10000 := fun _ => rfl
      have eq9 : nI (v (10 + 12 * k + 0)) - nI (v (10 + 12 * n + 0)) + nI 10000 = nI (v (10 + 12 * k + 0) + 10000 - v (10 + 12 * n + 0)) := by
        rw [Int32.sub_eq_add_neg, Int32.add_assoc, Int32.add_comm (-(nI (v (10 + 12 * n + 0)))), ← Int32.add_assoc, nI_add, ← Int32.sub_eq_add_neg, pk_sub (by omega)]
      refine zj_iadd (n := 45) rfl dX10_clockwise_44 ?_
      rw [eq9]
      refine zj_sipushN (v := 10000) (n := 48) rfl dX10_clockwise_45 (by decide) ?_
      refine zj_iremN (n := 49) rfl dX10_clockwise_48 (by omega) (by omega) (by omega) ?_
      refine zj_goto (tgt := 53) dX10_clockwise_49 (by decide) ?_
      refine zj_ireturn dX10_clockwise_53 rfl rfl ?_
      simp only [a_clockwise, c6, c14, Bool.and_true, if_true, xn_at (show n < 2 ^ 31 by omega), xn_at (show k < 2 ^ 31 by omega)] at h
      exact h M1 hQ1 (by rw [ht1]; rfl)
theorem jX10_tenant {v : zV} {x : Int32} {z : Int32} {Q : Option Value → zM → Prop} {X : String → zM → Prop} {M : zM} (hA : zRA M 119 v) (hW : zWF v) (hd : M.1 118 4 = nI 0) (h : ∀ M', zQm M M' → M'.1 118 0 = nI (a_tenant v x z).1 → Q (some (.int (a_tenant v x z).2)) M') : zJ yX10_tenant cX10_tenant 3 (some .int) rX10_tenant Q X rX10_tenant.cells rX10_tenant.slots 0 (zEnt 3 [.ref 118, .int x, .int z]) [] M := by
  have h6 := hW.nN
  have h7 := hW.tN
  have h8 := hW.gN
  have h9 := hW.hN
  show zJ yX10_tenant cX10_tenant 3 (some .int) rX10_tenant Q X 0 0 0 [some (.ref 118), some (.int x), some (.int z)] [] M
  refine zj_aload0 (n := 1) rfl dX10_tenant_0 ?_
  refine zj_aload0 (n := 2) rfl dX10_tenant_1 ?_
  refine zj_iload1 (n := 3) rfl dX10_tenant_2 ?_
  refine zj_callV1 (n := 6) (a' := 0) (b' := 0) rfl dX10_tenant_3 zm_X10_401 (by decide) (by decide) rfl (Nat.le_of_ble_eq_true rfl) (Nat.le_of_ble_eq_true rfl) (Nat.le_of_ble_eq_true rfl) (Nat.le_of_ble_eq_true rfl) (jX10_isTenant hA (by omega) ?_)
  refine zj_iload2 (n := 7) rfl dX10_tenant_6 ?_
  refine zj_i2l (n := 8) rfl dX10_tenant_7 ?_
  refine zj_lconstN_0 (n := 9) rfl dX10_tenant_8 ?_
  refine zj_ldc2N (v := 4) (n := 12) rfl dX10_tenant_9 zc_X10_404 ?_
  refine zj_callS3 (n := 15) (a' := 0) (b' := 0) rfl dX10_tenant_12 zm_X10_62 (by decide) (Nat.le_of_ble_eq_true rfl) (Nat.le_of_ble_eq_true rfl) (Nat.le_of_ble_eq_true rfl) (Nat.le_of_ble_eq_true rfl) (jX10_inB (k := 4) (by decide) ?_)
  refine zj_callV2 (n := 18) (a' := 0) (b' := 0) rfl dX10_tenant_15 zm_X10_395 (by decide) (by decide) rfl (Nat.le_of_ble_eq_true rfl) (Nat.le_of_ble_eq_true rfl) (Nat.le_of_ble_eq_true rfl) (Nat.le_of_ble_eq_true rfl) (jX10_passes2Q ?_)
  intro M1 hQ1 hF1 hL1 h118 ht1
  have hA1 := hQ1.ra hA
  have hd1 := hQ1.td hd
  refine zj_ifB_eq (n := 21) (tgt := 30) rfl dX10_tenant_18 (by decide) (fun c18 => ?_) (fun c18 => ?_)
  · refine zj_iconstN_0 (n := 31) rfl dX10_tenant_30 ?_
    refine zj_ireturn dX10_tenant_31 rfl rfl ?_
    cases d1 : zin x (v 7) with
    | false =>
      simp only [a_tenant, d1, if_true, if_false, Bool.false_eq_true, Bool.and_true, Bool.and_false, Bool.true_and, Bool.false_and] at h
      exact h M1 hQ1 (by rw [ht1, d1]; rfl)
    | true =>
      have d2 : zin z 5 = false := by rw [d1, Bool.true_and] at c18; exact c18
      simp only [a_tenant, d1, d2, if_true, if_false, Bool.false_eq_true, Bool.and_true, Bool.and_false, Bool.true_and, Bool.false_and] at h
      exact h M1 hQ1 (by rw [ht1, d1, d2]; rfl)
  · obtain ⟨d1, d2⟩ := (Bool.and_eq_true _ _).mp c18
    obtain ⟨n, hn, rfl⟩ := (zin_iff (by omega)).mp d1
    obtain ⟨k, hk, rfl⟩ := (zin_iff (by decide)).mp d2
    refine zj_aload0 (n := 22) rfl dX10_tenant_21 ?_
    refine zj_iload1 (n := 23) rfl dX10_tenant_22 ?_
    refine zj_iload2 (n := 24) rfl dX10_tenant_23 ?_
    refine zj_callV2 (n := 27) (a' := 0) (b' := 0) rfl dX10_tenant_24 zm_X10_167 (by decide) (by decide) rfl (Nat.le_of_ble_eq_true rfl) (Nat.le_of_ble_eq_true rfl) (Nat.le_of_ble_eq_true rfl) (Nat.le_of_ble_eq_true rfl) (jX10_tenantValue (c := k) hA1 (by omega) ?_)
    refine zj_goto (tgt := 31) dX10_tenant_27 (by decide) ?_
    refine zj_ireturn dX10_tenant_31 rfl rfl ?_
    simp only [a_tenant, d1, d2, if_true, if_false, Bool.false_eq_true, Bool.and_true, Bool.and_false, Bool.true_and, Bool.false_and, xn_at (show n < 2 ^ 31 by omega), xn_at (show k < 2 ^ 31 by omega)] at h
    exact h M1 hQ1 (by rw [ht1, d1, d2]; rfl)
theorem jX10_group {v : zV} {x : Int32} {z : Int32} {Q : Option Value → zM → Prop} {X : String → zM → Prop} {M : zM} (hA : zRA M 119 v) (hW : zWF v) (hd : M.1 118 4 = nI 0) (h : ∀ M', zQm M M' → M'.1 118 0 = nI (a_group v x z).1 → Q (some (.int (a_group v x z).2)) M') : zJ yX10_group cX10_group 3 (some .int) rX10_group Q X rX10_group.cells rX10_group.slots 0 (zEnt 3 [.ref 118, .int x, .int z]) [] M := by
  have h6 := hW.nN
  have h7 := hW.tN
  have h8 := hW.gN
  have h9 := hW.hN
  show zJ yX10_group cX10_group 3 (some .int) rX10_group Q X 0 0 0 [some (.ref 118), some (.int x), some (.int z)] [] M
  refine zj_aload0 (n := 1) rfl dX10_group_0 ?_
  refine zj_aload0 (n := 2) rfl dX10_group_1 ?_
  refine zj_iload1 (n := 3) rfl dX10_group_2 ?_
  refine zj_callV1 (n := 6) (a' := 0) (b' := 0) rfl dX10_group_3 zm_X10_406 (by decide) (by decide) rfl (Nat.le_of_ble_eq_true rfl) (Nat.le_of_ble_eq_true rfl) (Nat.le_of_ble_eq_true rfl) (Nat.le_of_ble_eq_true rfl) (jX10_isGroup hA (by omega) ?_)
  refine zj_iload2 (n := 7) rfl dX10_group_6 ?_
  refine zj_i2l (n := 8) rfl dX10_group_7 ?_
  refine zj_lconstN_0 (n := 9) rfl dX10_group_8 ?_
  refine zj_ldc2N (v := 8) (n := 12) rfl dX10_group_9 zc_X10_409 ?_
  refine zj_callS3 (n := 15) (a' := 0) (b' := 0) rfl dX10_group_12 zm_X10_62 (by decide) (Nat.le_of_ble_eq_true rfl) (Nat.le_of_ble_eq_true rfl) (Nat.le_of_ble_eq_true rfl) (Nat.le_of_ble_eq_true rfl) (jX10_inB (k := 8) (by decide) ?_)
  refine zj_callV2 (n := 18) (a' := 0) (b' := 0) rfl dX10_group_15 zm_X10_395 (by decide) (by decide) rfl (Nat.le_of_ble_eq_true rfl) (Nat.le_of_ble_eq_true rfl) (Nat.le_of_ble_eq_true rfl) (Nat.le_of_ble_eq_true rfl) (jX10_passes2Q ?_)
  intro M1 hQ1 hF1 hL1 h118 ht1
  have hA1 := hQ1.ra hA
  have hd1 := hQ1.td hd
  refine zj_ifB_ne (n := 21) (tgt := 23) rfl dX10_group_18 (by decide) (fun c18 => ?_) (fun c18 => ?_)
  · obtain ⟨d1, d2⟩ := (Bool.and_eq_true _ _).mp c18
    obtain ⟨n, hn, rfl⟩ := (zin_iff (by omega)).mp d1
    obtain ⟨k, hk, rfl⟩ := (zin_iff (by decide)).mp d2
    refine zj_iload2 (n := 24) rfl dX10_group_23 ?_
    refine zj_bipushN (v := 7) (n := 26) rfl dX10_group_24 (by decide) ?_
    refine zj_icmpN_ge (n := 29) (tgt := 38) rfl dX10_group_26 (by decide) (by omega) (by omega) (fun c26 => ?_) (fun c26 => ?_)
    · refine zj_iload2 (n := 39) rfl dX10_group_38 ?_
      refine zj_bipushN (v := 7) (n := 41) rfl dX10_group_39 (by decide) ?_
      refine zj_icmpN_ne (n := 44) (tgt := 52) rfl dX10_group_41 (by decide) (by omega) (by omega) (fun c41 => ?_) (fun c41 => ?_)
      · refine zj_aload0 (n := 53) rfl dX10_group_52 ?_
        refine zj_iload1 (n := 54) rfl dX10_group_53 ?_
        refine zj_callV1 (n := 57) (a' := 0) (b' := 0) rfl dX10_group_54 zm_X10_152 (by decide) (by decide) rfl (Nat.le_of_ble_eq_true rfl) (Nat.le_of_ble_eq_true rfl) (Nat.le_of_ble_eq_true rfl) (Nat.le_of_ble_eq_true rfl) (jX10_needOf hA1 hW hd1 (by decide) hn ?_)
        refine zj_ireturn dX10_group_57 rfl rfl ?_
        simp only [a_group, d1, d2, if_true, if_false, Bool.false_eq_true, Bool.and_true, Bool.and_false, Bool.true_and, Bool.false_and, xn_at (show n < 2 ^ 31 by omega), xn_at (show k < 2 ^ 31 by omega)] at h
        rw [if_neg (by omega), if_neg c41] at h
        exact h M1 hQ1 (by rw [ht1, d1, d2]; rfl)
      · refine zj_aload0 (n := 45) rfl dX10_group_44 ?_
        refine zj_iload1 (n := 46) rfl dX10_group_45 ?_
        refine zj_callV1 (n := 49) (a' := 0) (b' := 0) rfl dX10_group_46 zm_X10_133 (by decide) (by decide) rfl (Nat.le_of_ble_eq_true rfl) (Nat.le_of_ble_eq_true rfl) (Nat.le_of_ble_eq_true rfl) (Nat.le_of_ble_eq_true rfl) (jX10_costOf hA1 (by omega) ?_)
        refine zj_goto (tgt := 57) dX10_group_49 (by decide) ?_
        refine zj_ireturn dX10_group_57 rfl rfl ?_
        simp only [a_group, d1, d2, if_true, if_false, Bool.false_eq_true, Bool.and_true, Bool.and_false, Bool.true_and, Bool.false_and, xn_at (show n < 2 ^ 31 by omega), xn_at (show k < 2 ^ 31 by omega)] at h
        rw [if_neg (by omega), if_pos c41] at h
        exact h M1 hQ1 (by rw [ht1, d1, d2]; rfl)
    · refine zj_aload0 (n := 30) rfl dX10_group_29 ?_
      refine zj_iload1 (n := 31) rfl dX10_group_30 ?_
      refine zj_iload2 (n := 32) rfl dX10_group_31 ?_
      refine zj_callV2 (n := 35) (a' := 0) (b' := 0) rfl dX10_group_32 zm_X10_66 (by decide) (by decide) rfl (Nat.le_of_ble_eq_true rfl) (Nat.le_of_ble_eq_true rfl) (Nat.le_of_ble_eq_true rfl) (Nat.le_of_ble_eq_true rfl) (jX10_groupValue (c := k) hA1 (by omega) ?_)
      refine zj_goto (tgt := 57) dX10_group_35 (by decide) ?_
      refine zj_ireturn dX10_group_57 rfl rfl ?_
      simp only [a_group, d1, d2, if_true, if_false, Bool.false_eq_true, Bool.and_true, Bool.and_false, Bool.true_and, Bool.false_and, xn_at (show n < 2 ^ 31 by omega), xn_at (show k < 2 ^ 31 by omega)] at h
      rw [if_pos c26] at h
      exact h M1 hQ1 (by rw [ht1, d1, d2]; rfl)
  · refine zj_iconstN_0 (n := 22) rfl dX10_group_21 ?_
    refine zj_ireturn dX10_group_22 rfl rfl ?_
    cases d1 : zin x (v 8) with
    | false =>
      simp only [a_group, d1, if_true, if_false, Bool.false_eq_true, Bool.and_true, Bool.and_false, Bool.true_and, Bool.false_and] at h
      exact h M1 hQ1 (by rw [ht1, d1]; rfl)
    | true =>
      have d2 : zin z 9 = false := by rw [d1, Bool.true_and] at c18; exact c18
      simp only [a_group, d1, d2, if_true, if_false, Bool.false_eq_true, Bool.and_true, Bool.and_false, Bool.true_and, Bool.false_and] at h
      exact h M1 hQ1 (by rw [ht1, d1, d2]; rfl)
theorem jX10_missing {v : zV} {x : Int32} {Q : Option Value → zM → Prop} {X : String → zM → Prop} {M : zM} (hA : zRA M 119 v) (hW : zWF v) (hd : M.1 118 4 = nI 0) (h : ∀ M', zQm M M' → M'.1 118 0 = nI (a_missing v x).1 → Q (some (.int (a_missing v x).2)) M') : zJ yX10_missing cX10_missing 2 (some .int) rX10_missing Q X rX10_missing.cells rX10_missing.slots 0 (zEnt 2 [.ref 118, .int x]) [] M := by
  have h6 := hW.nN
  have h7 := hW.tN
  have h8 := hW.gN
  have h9 := hW.hN
  show zJ yX10_missing cX10_missing 2 (some .int) rX10_missing Q X 0 0 0 [some (.ref 118), some (.int x)] [] M
  refine zj_aload0 (n := 1) rfl dX10_missing_0 ?_
  refine zj_aload0 (n := 2) rfl dX10_missing_1 ?_
  refine zj_iload1 (n := 3) rfl dX10_missing_2 ?_
  refine zj_callV1 (n := 6) (a' := 0) (b' := 0) rfl dX10_missing_3 zm_X10_406 (by decide) (by decide) rfl (Nat.le_of_ble_eq_true rfl) (Nat.le_of_ble_eq_true rfl) (Nat.le_of_ble_eq_true rfl) (Nat.le_of_ble_eq_true rfl) (jX10_isGroup hA (by omega) ?_)
  refine zj_callV1 (n := 9) (a' := 0) (b' := 0) rfl dX10_missing_6 zm_X10_216 (by decide) (by decide) rfl (Nat.le_of_ble_eq_true rfl) (Nat.le_of_ble_eq_true rfl) (Nat.le_of_ble_eq_true rfl) (Nat.le_of_ble_eq_true rfl) (jX10_passesQ ?_)
  intro M1 hQ1 hF1 hL1 h118 ht1
  have hA1 := hQ1.ra hA
  have hd1 := hQ1.td hd
  refine zj_ifB_eq (n := 12) (tgt := 20) rfl dX10_missing_9 (by decide) (fun c9 => ?_) (fun c9 => ?_)
  · refine zj_iconstN_0 (n := 21) rfl dX10_missing_20 ?_
    refine zj_ireturn dX10_missing_21 rfl rfl ?_
    simp only [a_missing, c9, if_true, if_false, Bool.false_eq_true, Bool.and_true, Bool.and_false, Bool.true_and, Bool.false_and] at h
    exact h M1 hQ1 (by rw [ht1, c9]; rfl)
  · obtain ⟨n, hn, rfl⟩ := (zin_iff (by omega)).mp c9
    refine zj_aload0 (n := 13) rfl dX10_missing_12 ?_
    refine zj_iload1 (n := 14) rfl dX10_missing_13 ?_
    refine zj_callV1 (n := 17) (a' := 0) (b' := 0) rfl dX10_missing_14 zm_X10_109 (by decide) (by decide) rfl (Nat.le_of_ble_eq_true rfl) (Nat.le_of_ble_eq_true rfl) (Nat.le_of_ble_eq_true rfl) (Nat.le_of_ble_eq_true rfl) (jX10_missingSet hA1 hd1 (by decide) (hW.gh hn).1 (hW.gh hn).2.1 (hW.gh hn).2.2.1 (hW.gh hn).2.2.2.1 ?_)
    refine zj_goto (tgt := 21) dX10_missing_17 (by decide) ?_
    refine zj_ireturn dX10_missing_21 rfl rfl ?_
    simp only [a_missing, c9, if_true, if_false, Bool.false_eq_true, Bool.and_true, Bool.and_false, Bool.true_and, Bool.false_and, xn_at (show n < 2 ^ 31 by omega)] at h
    exact h M1 hQ1 (by rw [ht1, c9]; rfl)
theorem jX10_loss {v : zV} {x : Int32} {Q : Option Value → zM → Prop} {X : String → zM → Prop} {M : zM} (hA : zRA M 119 v) (hW : zWF v) (hd : M.1 118 4 = nI 0) (h : ∀ M', zQm M M' → M'.1 118 0 = nI (a_loss v x).1 → Q (some (.int (a_loss v x).2)) M') : zJ yX10_loss cX10_loss 2 (some .int) rX10_loss Q X rX10_loss.cells rX10_loss.slots 0 (zEnt 2 [.ref 118, .int x]) [] M := by
  have h6 := hW.nN
  have h7 := hW.tN
  have h8 := hW.gN
  have h9 := hW.hN
  show zJ yX10_loss cX10_loss 2 (some .int) rX10_loss Q X 0 0 0 [some (.ref 118), some (.int x)] [] M
  refine zj_aload0 (n := 1) rfl dX10_loss_0 ?_
  refine zj_aload0 (n := 2) rfl dX10_loss_1 ?_
  refine zj_iload1 (n := 3) rfl dX10_loss_2 ?_
  refine zj_callV1 (n := 6) (a' := 0) (b' := 0) rfl dX10_loss_3 zm_X10_406 (by decide) (by decide) rfl (Nat.le_of_ble_eq_true rfl) (Nat.le_of_ble_eq_true rfl) (Nat.le_of_ble_eq_true rfl) (Nat.le_of_ble_eq_true rfl) (jX10_isGroup hA (by omega) ?_)
  refine zj_callV1 (n := 9) (a' := 0) (b' := 0) rfl dX10_loss_6 zm_X10_216 (by decide) (by decide) rfl (Nat.le_of_ble_eq_true rfl) (Nat.le_of_ble_eq_true rfl) (Nat.le_of_ble_eq_true rfl) (Nat.le_of_ble_eq_true rfl) (jX10_passesQ ?_)
  intro M1 hQ1 hF1 hL1 h118 ht1
  have hA1 := hQ1.ra hA
  have hd1 := hQ1.td hd
  refine zj_ifB_eq (n := 12) (tgt := 20) rfl dX10_loss_9 (by decide) (fun c9 => ?_) (fun c9 => ?_)
  · refine zj_iconstN_0 (n := 21) rfl dX10_loss_20 ?_
    refine zj_ireturn dX10_loss_21 rfl rfl ?_
    simp only [a_loss, c9, if_true, if_false, Bool.false_eq_true, Bool.and_true, Bool.and_false, Bool.true_and, Bool.false_and] at h
    exact h M1 hQ1 (by rw [ht1, c9]; rfl)
  · obtain ⟨n, hn, rfl⟩ := (zin_iff (by omega)).mp c9
    refine zj_aload0 (n := 13) rfl dX10_loss_12 ?_
    refine zj_iload1 (n := 14) rfl dX10_loss_13 ?_
    refine zj_callV1 (n := 17) (a' := 0) (b' := 0) rfl dX10_loss_14 zm_X10_130 (by decide) (by decide) rfl (Nat.le_of_ble_eq_true rfl) (Nat.le_of_ble_eq_true rfl) (Nat.le_of_ble_eq_true rfl) (Nat.le_of_ble_eq_true rfl) (jX10_lossOf hA1 hW hd1 (by decide) hn ?_)
    intro L hL
    refine zj_goto (tgt := 21) dX10_loss_17 (by decide) ?_
    refine zj_ireturn dX10_loss_21 rfl rfl ?_
    simp only [a_loss, c9, if_true, if_false, Bool.false_eq_true, Bool.and_true, Bool.and_false, Bool.true_and, Bool.false_and, xn_at (show n < 2 ^ 31 by omega)] at h
    exact h _ (hQ1.tr (zQm.ofSr (zSr.ofL hL))) (by rw [ht1, c9]; rfl)
theorem jX10_offer {v : zV} {x : Int32} {Q : Option Value → zM → Prop} {X : String → zM → Prop} {M : zM} (hA : zRA M 119 v) (hW : zWF v) (hd : M.1 118 4 = nI 0) (h : ∀ M', zQm M M' → M'.1 118 0 = nI (a_offer v x).1 → Q (some (.int (a_offer v x).2)) M') : zJ yX10_offer cX10_offer 2 (some .int) rX10_offer Q X rX10_offer.cells rX10_offer.slots 0 (zEnt 2 [.ref 118, .int x]) [] M := by
  have h6 := hW.nN
  have h7 := hW.tN
  have h8 := hW.gN
  have h9 := hW.hN
  show zJ yX10_offer cX10_offer 2 (some .int) rX10_offer Q X 0 0 0 [some (.ref 118), some (.int x)] [] M
  refine zj_aload0 (n := 1) rfl dX10_offer_0 ?_
  refine zj_aload0 (n := 2) rfl dX10_offer_1 ?_
  refine zj_iload1 (n := 3) rfl dX10_offer_2 ?_
  refine zj_callV1 (n := 6) (a' := 0) (b' := 0) rfl dX10_offer_3 zm_X10_406 (by decide) (by decide) rfl (Nat.le_of_ble_eq_true rfl) (Nat.le_of_ble_eq_true rfl) (Nat.le_of_ble_eq_true rfl) (Nat.le_of_ble_eq_true rfl) (jX10_isGroup hA (by omega) ?_)
  refine zj_callV1 (n := 9) (a' := 0) (b' := 0) rfl dX10_offer_6 zm_X10_216 (by decide) (by decide) rfl (Nat.le_of_ble_eq_true rfl) (Nat.le_of_ble_eq_true rfl) (Nat.le_of_ble_eq_true rfl) (Nat.le_of_ble_eq_true rfl) (jX10_passesQ ?_)
  intro M1 hQ1 hF1 hL1 h118 ht1
  have hA1 := hQ1.ra hA
  have hd1 := hQ1.td hd
  refine zj_ifB_eq (n := 12) (tgt := 20) rfl dX10_offer_9 (by decide) (fun c9 => ?_) (fun c9 => ?_)
  · refine zj_iconstN_0 (n := 21) rfl dX10_offer_20 ?_
    refine zj_ireturn dX10_offer_21 rfl rfl ?_
    simp only [a_offer, c9, if_true, if_false, Bool.false_eq_true, Bool.and_true, Bool.and_false, Bool.true_and, Bool.false_and] at h
    exact h M1 hQ1 (by rw [ht1, c9]; rfl)
  · obtain ⟨n, hn, rfl⟩ := (zin_iff (by omega)).mp c9
    refine zj_aload0 (n := 13) rfl dX10_offer_12 ?_
    refine zj_iload1 (n := 14) rfl dX10_offer_13 ?_
    refine zj_callV1 (n := 17) (a' := 0) (b' := 0) rfl dX10_offer_14 zm_X10_158 (by decide) (by decide) rfl (Nat.le_of_ble_eq_true rfl) (Nat.le_of_ble_eq_true rfl) (Nat.le_of_ble_eq_true rfl) (Nat.le_of_ble_eq_true rfl) (jX10_offerOf hA1 hW hd1 (by decide) hn ?_)
    intro L hL
    refine zj_goto (tgt := 21) dX10_offer_17 (by decide) ?_
    refine zj_ireturn dX10_offer_21 rfl rfl ?_
    simp only [a_offer, c9, if_true, if_false, Bool.false_eq_true, Bool.and_true, Bool.and_false, Bool.true_and, Bool.false_and, xn_at (show n < 2 ^ 31 by omega)] at h
    exact h _ (hQ1.tr (zQm.ofSr (zSr.ofL hL))) (by rw [ht1, c9]; rfl)
