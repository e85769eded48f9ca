/-! LONGS compared -/
section Z48
variable {y : MethodName} {cc : ByteArray} {nL : Nat} {ret : Option FieldType} {R : Room} {Q : Option Value → zM → Prop} {X : String → zM → Prop} {a b pc n : Nat} {l : List (Option Value)} {st : List Value} {M : zM}
theorem zlc_gt {x z : Nat} (hx : x < 2 ^ 63) (hz : z < 2 ^ 63) (h : z < x) : lg_cmp (lN x) (lN z) = 1 := if_pos ((pk_lLT hz hx).mpr h)
theorem zlc_eq {x : Nat} : lg_cmp (lN x) (lN x) = 0 := by
  unfold lg_cmp
  rw [if_neg (fun q => absurd q Int64.lt_irrefl), if_pos rfl]
theorem zlc_lt {x z : Nat} (hx : x < 2 ^ 63) (hz : z < 2 ^ 63) (h : x < z) : lg_cmp (lN x) (lN z) = -1 := by
  unfold lg_cmp
  rw [if_neg (fun q => by have := (pk_lLT hz hx).mp q; omega), if_neg (fun q => by have := (pk_lEQ hx hz).mp q; omega)]
theorem zj_ifC_gt {x z : Nat} {off : Int} {tgt : Nat} (hn : pc + 3 = n) (hd : decode cc pc = .ok (.ifCond .gt off, 3)) (ht : (pc : Int) + off = (tgt : Int)) (hx : x < 2 ^ 63) (hz : z < 2 ^ 63) (kt : z < x → zJ y cc nL ret R Q X a b tgt l st M) (kf : x ≤ z → zJ y cc nL ret R Q X a b n l st M) : zJ y cc nL ret R Q X a b pc l (.int (lg_cmp (lN x) (lN z)) :: st) M := by
  rcases Nat.lt_trichotomy x z with q | q | q
  · rw [zlc_lt hx hz q]; exact zj_if_gt hn hd ht (fun w => absurd w (by decide)) (fun w => kf (by omega))
  · subst q; rw [zlc_eq]; exact zj_if_gt hn hd ht (fun w => absurd w (by decide)) (fun w => kf (by omega))
  · rw [zlc_gt hx hz q]; exact zj_if_gt hn hd ht (fun w => kt (by omega)) (fun w => absurd w (by decide))
theorem zj_ifC_le {x z : Nat} {off : Int} {tgt : Nat} (hn : pc + 3 = n) (hd : decode cc pc = .ok (.ifCond .le off, 3)) (ht : (pc : Int) + off = (tgt : Int)) (hx : x < 2 ^ 63) (hz : z < 2 ^ 63) (kt : x ≤ z → zJ y cc nL ret R Q X a b tgt l st M) (kf : z < x → zJ y cc nL ret R Q X a b n l st M) : zJ y cc nL ret R Q X a b pc l (.int (lg_cmp (lN x) (lN z)) :: st) M := by
  rcases Nat.lt_trichotomy x z with q | q | q
  · rw [zlc_lt hx hz q]; exact zj_if_le hn hd ht (fun w => kt (by omega)) (fun w => absurd w (by decide))
  · subst q; rw [zlc_eq]; exact zj_if_le hn hd ht (fun w => kt (by omega)) (fun w => absurd w (by decide))
  · rw [zlc_gt hx hz q]; exact zj_if_le hn hd ht (fun w => absurd w (by decide)) (fun w => kf (by omega))
theorem zj_ifC_lt {x z : Nat} {off : Int} {tgt : Nat} (hn : pc + 3 = n) (hd : decode cc pc = .ok (.ifCond .lt off, 3)) (ht : (pc : Int) + off = (tgt : Int)) (hx : x < 2 ^ 63) (hz : z < 2 ^ 63) (kt : x < z → zJ y cc nL ret R Q X a b tgt l st M) (kf : z ≤ x → zJ y cc nL ret R Q X a b n l st M) : zJ y cc nL ret R Q X a b pc l (.int (lg_cmp (lN x) (lN z)) :: st) M := by
  rcases Nat.lt_trichotomy x z with q | q | q
  · rw [zlc_lt hx hz q]; exact zj_if_lt hn hd ht (fun w => kt (by omega)) (fun w => absurd w (by decide))
  · subst q; rw [zlc_eq]; exact zj_if_lt hn hd ht (fun w => absurd w (by decide)) (fun w => kf (by omega))
  · rw [zlc_gt hx hz q]; exact zj_if_lt hn hd ht (fun w => absurd w (by decide)) (fun w => kf (by omega))
theorem zj_ifC_ge {x z : Nat} {off : Int} {tgt : Nat} (hn : pc + 3 = n) (hd : decode cc pc = .ok (.ifCond .ge off, 3)) (ht : (pc : Int) + off = (tgt : Int)) (hx : x < 2 ^ 63) (hz : z < 2 ^ 63) (kt : z ≤ x → zJ y cc nL ret R Q X a b tgt l st M) (kf : x < z → zJ y cc nL ret R Q X a b n l st M) : zJ y cc nL ret R Q X a b pc l (.int (lg_cmp (lN x) (lN z)) :: st) M := by
  rcases Nat.lt_trichotomy x z with q | q | q
  · rw [zlc_lt hx hz q]; exact zj_if_ge hn hd ht (fun w => absurd w (by decide)) (fun w => kf (by omega))
  · subst q; rw [zlc_eq]; exact zj_if_ge hn hd ht (fun w => kt (by omega)) (fun w => absurd w (by decide))
  · rw [zlc_gt hx hz q]; exact zj_if_ge hn hd ht (fun w => kt (by omega)) (fun w => absurd w (by decide))
theorem zj_ifC_ne {x z : Nat} {off : Int} {tgt : Nat} (hn : pc + 3 = n) (hd : decode cc pc = .ok (.ifCond .ne off, 3)) (ht : (pc : Int) + off = (tgt : Int)) (hx : x < 2 ^ 63) (hz : z < 2 ^ 63) (kt : x ≠ z → zJ y cc nL ret R Q X a b tgt l st M) (kf : x = z → zJ y cc nL ret R Q X a b n l st M) : zJ y cc nL ret R Q X a b pc l (.int (lg_cmp (lN x) (lN z)) :: st) M := by
  rcases Nat.lt_trichotomy x z with q | q | q
  · rw [zlc_lt hx hz q]; exact zj_if_ne hn hd ht (fun w => kt (by omega)) (fun w => absurd w (by decide))
  · subst q; rw [zlc_eq]; exact zj_if_ne hn hd ht (fun w => absurd w (by decide)) (fun w => kf (by omega))
  · rw [zlc_gt hx hz q]; exact zj_if_ne hn hd ht (fun w => kt (by omega)) (fun w => absurd w (by decide))
theorem zj_ifC_eq {x z : Nat} {off : Int} {tgt : Nat} (hn : pc + 3 = n) (hd : decode cc pc = .ok (.ifCond .eq off, 3)) (ht : (pc : Int) + off = (tgt : Int)) (hx : x < 2 ^ 63) (hz : z < 2 ^ 63) (kt : x = z → zJ y cc nL ret R Q X a b tgt l st M) (kf : x ≠ z → zJ y cc nL ret R Q X a b n l st M) : zJ y cc nL ret R Q X a b pc l (.int (lg_cmp (lN x) (lN z)) :: st) M := by
  rcases Nat.lt_trichotomy x z with q | q | q
  · rw [zlc_lt hx hz q]; exact zj_if_eq hn hd ht (fun w => absurd w (by decide)) (fun w => kf (by omega))
  · subst q; rw [zlc_eq]; exact zj_if_eq hn hd ht (fun w => kt (by omega)) (fun w => absurd w (by decide))
  · rw [zlc_gt hx hz q]; exact zj_if_eq hn hd ht (fun w => absurd w (by decide)) (fun w => kf (by omega))
end Z48
theorem jX10_fewestFailuresSet {v : zV} {Q : Option Value → zM → Prop} {X : String → zM → Prop} {M : zM} (hA : zRA M 119 v) (hW : zWF v) (hd : M.1 118 4 = nI 0) (h : ∀ M', zQm M M' → M'.1 118 0 = nI (a_fewestSet v).1 → Q (some (.int (a_fewestSet v).2)) M') : zJ yX10_fewestFailuresSet cX10_fewestFailuresSet 5 (some .int) rX10_fewestFailuresSet Q X rX10_fewestFailuresSet.cells rX10_fewestFailuresSet.slots 0 (zEnt 5 [.ref 118]) [] M := by
  have h6 := hW.nN
  have h7 := hW.tN
  have h8 := hW.gN
  have h9 := hW.hN
  show zJ yX10_fewestFailuresSet cX10_fewestFailuresSet 5 (some .int) rX10_fewestFailuresSet Q X 0 0 0 [some (.ref 118), none, none, none, none] [] M
  refine zj_aload0 (n := 1) rfl dX10_fewestFailuresSet_0 ?_
  refine zj_iconstN_0 (n := 2) rfl dX10_fewestFailuresSet_1 ?_
  refine zj_puti (n := 5) rfl dX10_fewestFailuresSet_2 zp_X10_3 rfl (by decide) (by decide) ?_
  refine zj_gen (fun M1 => zQm M M1 ∧ M1.1 118 0 = nI 0 ∧ M1.2 = M.2) ⟨zQm.thr, by dsimp only; exact zU_eq, rfl⟩ (fun M1 h1 => ?_)
  obtain ⟨hQ1, ht1, hL1⟩ := h1
  have hA1 := hQ1.ra hA
  have hd1 := hQ1.td hd
  refine zj_aload0 (n := 6) rfl dX10_fewestFailuresSet_5 ?_
  refine zj_callV0 (n := 9) (a' := 0) (b' := 0) rfl dX10_fewestFailuresSet_6 zm_X10_445 (by decide) (by decide) rfl (Nat.le_of_ble_eq_true rfl) (Nat.le_of_ble_eq_true rfl) (Nat.le_of_ble_eq_true rfl) (Nat.le_of_ble_eq_true rfl) (jX10_fewest hA1 hW hd1 ?_)
  refine zj_istore1 (n := 10) rfl dX10_fewestFailuresSet_9 rfl (Nat.le_of_ble_eq_true rfl) ?_
  rcases ef : vfew v (v 8) with _ | mm
  · -- 
    refine zj_iconst_m1 (n := 11) rfl dX10_fewestFailuresSet_10 ?_
    refine zj_istore2 (n := 12) rfl dX10_fewestFailuresSet_11 rfl (Nat.le_of_ble_eq_true rfl) ?_
    refine zj_iconstN_0 (n := 13) rfl dX10_fewestFailuresSet_12 ?_
    refine zj_istore3 (n := 14) rfl dX10_fewestFailuresSet_13 rfl (Nat.le_of_ble_eq_true rfl) ?_
    refine zFor_rule (P := fun g (_ : Unit) => zJ yX10_fewestFailuresSet cX10_fewestFailuresSet 5 (some .int) rX10_fewestFailuresSet Q X 0 0 14 [some (.ref 118), some (.int (-1)), some (.int (zo (vfs v g))), some (.int (nI g)), none] [] M1) (n := v 8) (f := fun _ s => s) (s0 := ()) ?_ ?_
    · intro g _ hg hk
      refine zj_iload3 (n := 15) rfl dX10_fewestFailuresSet_14 ?_
      refine zj_aload0 (n := 16) rfl dX10_fewestFailuresSet_15 ?_
      refine zj_getr (n := 19) (q := 119) rfl dX10_fewestFailuresSet_16 zf_X10_17 rfl (by decide) (by decide) rfl ?_
      refine zj_bipushN (v := 8) (n := 21) rfl dX10_fewestFailuresSet_19 (by decide) ?_
      refine zj_ialoadN (e := v 8) (n := 22) rfl dX10_fewestFailuresSet_21 (by decide) (by decide) (by rw [show zLen 119 = 698 from rfl]; omega) (hA1.2.2 _ (by omega)) ?_
      refine zj_icmpN_ge (n := 25) (tgt := 73) rfl dX10_fewestFailuresSet_22 (by decide) (by omega) (by omega) (fun c22 => by omega) (fun c22 => ?_)
      refine zj_aload0 (n := 26) rfl dX10_fewestFailuresSet_25 ?_
      refine zj_iload3 (n := 27) rfl dX10_fewestFailuresSet_26 ?_
      refine zj_callV1 (n := 30) (a' := 0) (b' := 0) rfl dX10_fewestFailuresSet_27 zm_X10_121 (by decide) (by decide) rfl (Nat.le_of_ble_eq_true rfl) (Nat.le_of_ble_eq_true rfl) (Nat.le_of_ble_eq_true rfl) (Nat.le_of_ble_eq_true rfl) (jX10_isLost hA1 hW hd1 (by decide) hg ?_)
      refine zj_ifB_ne (n := 33) (tgt := 67) rfl dX10_fewestFailuresSet_30 (by decide) (fun c30 => ?_) (fun c30 => ?_)
      · refine zj_iincN3 (n := 70) rfl dX10_fewestFailuresSet_67 rfl (Nat.le_of_ble_eq_true rfl) ?_
        refine zj_goto (tgt := 14) dX10_fewestFailuresSet_70 (by decide) ?_
        rw [vfs_succ] at hk
        rw [show vfsS v g (vfs v g) = vfs v g by unfold vfsS; rw [c30, Bool.not_true, Bool.false_and, if_neg (by decide)]] at hk
        exact hk
      · refine zj_aload0 (n := 34) rfl dX10_fewestFailuresSet_33 ?_
        refine zj_iload3 (n := 35) rfl dX10_fewestFailuresSet_34 ?_
        refine zj_callV1 (n := 38) (a' := 0) (b' := 0) rfl dX10_fewestFailuresSet_35 zm_X10_442 (by decide) (by decide) rfl (Nat.le_of_ble_eq_true rfl) (Nat.le_of_ble_eq_true rfl) (Nat.le_of_ble_eq_true rfl) (Nat.le_of_ble_eq_true rfl) (jX10_failuresOf hA1 hW hd1 hg c30 ?_)
        refine zj_iload1 (n := 39) rfl dX10_fewestFailuresSet_38 ?_
        refine zj_icmp_eq (n := 42) (tgt := 45) rfl dX10_fewestFailuresSet_39 (by decide) (fun q => absurd q (nI_ne_m1 (by first | omega | (have := vfew_lt hW _ (Nat.le_refl _) mm ef; omega) | (have := vnav_le (v := v) (d := 0) (g := g); have := (hW.sh hg).2; unfold vfl; omega)))) (fun _ => ?_)
        refine zj_goto (tgt := 67) dX10_fewestFailuresSet_42 (by decide) ?_
        refine zj_iincN3 (n := 70) rfl dX10_fewestFailuresSet_67 rfl (Nat.le_of_ble_eq_true rfl) ?_
        refine zj_goto (tgt := 14) dX10_fewestFailuresSet_70 (by decide) ?_
        rw [vfs_succ] at hk
        rw [show vfsS v g (vfs v g) = vfs v g by unfold vfsS; rw [ef, decide_eq_false (fun q => by cases q), Bool.and_false, if_neg (by decide)]] at hk
        exact hk
    · skip
      refine zj_iload3 (n := 15) rfl dX10_fewestFailuresSet_14 ?_
      refine zj_aload0 (n := 16) rfl dX10_fewestFailuresSet_15 ?_
      refine zj_getr (n := 19) (q := 119) rfl dX10_fewestFailuresSet_16 zf_X10_17 rfl (by decide) (by decide) rfl ?_
      refine zj_bipushN (v := 8) (n := 21) rfl dX10_fewestFailuresSet_19 (by decide) ?_
      refine zj_ialoadN (e := v 8) (n := 22) rfl dX10_fewestFailuresSet_21 (by decide) (by decide) (by rw [show zLen 119 = 698 from rfl]; omega) (hA1.2.2 _ (by omega)) ?_
      refine zj_icmpN_ge (n := 25) (tgt := 73) rfl dX10_fewestFailuresSet_22 (by decide) (by omega) (by omega) (fun c22 => ?_) (fun c22 => by omega)
      refine zj_iload2 (n := 74) rfl dX10_fewestFailuresSet_73 ?_
      exact zj_ireturn dX10_fewestFailuresSet_74 rfl rfl (h M1 hQ1 ht1)
  · -- 
    refine zj_iconst_m1 (n := 11) rfl dX10_fewestFailuresSet_10 ?_
    refine zj_istore2 (n := 12) rfl dX10_fewestFailuresSet_11 rfl (Nat.le_of_ble_eq_true rfl) ?_
    refine zj_iconstN_0 (n := 13) rfl dX10_fewestFailuresSet_12 ?_
    refine zj_istore3 (n := 14) rfl dX10_fewestFailuresSet_13 rfl (Nat.le_of_ble_eq_true rfl) ?_
    refine zFor_rule (P := fun g (_ : Unit) => zJ yX10_fewestFailuresSet cX10_fewestFailuresSet 5 (some .int) rX10_fewestFailuresSet Q X 0 0 14 [some (.ref 118), some (.int (nI mm)), some (.int (zo (vfs v g))), some (.int (nI g)), none] [] M1) (n := v 8) (f := fun _ s => s) (s0 := ()) ?_ ?_
    · intro g _ hg hk
      refine zj_iload3 (n := 15) rfl dX10_fewestFailuresSet_14 ?_
      refine zj_aload0 (n := 16) rfl dX10_fewestFailuresSet_15 ?_
      refine zj_getr (n := 19) (q := 119) rfl dX10_fewestFailuresSet_16 zf_X10_17 rfl (by decide) (by decide) rfl ?_
      refine zj_bipushN (v := 8) (n := 21) rfl dX10_fewestFailuresSet_19 (by decide) ?_
      refine zj_ialoadN (e := v 8) (n := 22) rfl dX10_fewestFailuresSet_21 (by decide) (by decide) (by rw [show zLen 119 = 698 from rfl]; omega) (hA1.2.2 _ (by omega)) ?_
      refine zj_icmpN_ge (n := 25) (tgt := 73) rfl dX10_fewestFailuresSet_22 (by decide) (by omega) (by omega) (fun c22 => by omega) (fun c22 => ?_)
      refine zj_aload0 (n := 26) rfl dX10_fewestFailuresSet_25 ?_
      refine zj_iload3 (n := 27) rfl dX10_fewestFailuresSet_26 ?_
      refine zj_callV1 (n := 30) (a' := 0) (b' := 0) rfl dX10_fewestFailuresSet_27 zm_X10_121 (by decide) (by decide) rfl (Nat.le_of_ble_eq_true rfl) (Nat.le_of_ble_eq_true rfl) (Nat.le_of_ble_eq_true rfl) (Nat.le_of_ble_eq_true rfl) (jX10_isLost hA1 hW hd1 (by decide) hg ?_)
      refine zj_ifB_ne (n := 33) (tgt := 67) rfl dX10_fewestFailuresSet_30 (by decide) (fun c30 => ?_) (fun c30 => ?_)
      · refine zj_iincN3 (n := 70) rfl dX10_fewestFailuresSet_67 rfl (Nat.le_of_ble_eq_true rfl) ?_
        refine zj_goto (tgt := 14) dX10_fewestFailuresSet_70 (by decide) ?_
        rw [vfs_succ] at hk
        rw [show vfsS v g (vfs v g) = vfs v g by unfold vfsS; rw [c30, Bool.not_true, Bool.false_and, if_neg (by decide)]] at hk
        exact hk
      · refine zj_aload0 (n := 34) rfl dX10_fewestFailuresSet_33 ?_
        refine zj_iload3 (n := 35) rfl dX10_fewestFailuresSet_34 ?_
        refine zj_callV1 (n := 38) (a' := 0) (b' := 0) rfl dX10_fewestFailuresSet_35 zm_X10_442 (by decide) (by decide) rfl (Nat.le_of_ble_eq_true rfl) (Nat.le_of_ble_eq_true rfl) (Nat.le_of_ble_eq_true rfl) (Nat.le_of_ble_eq_true rfl) (jX10_failuresOf hA1 hW hd1 hg c30 ?_)
        refine zj_iload1 (n := 39) rfl dX10_fewestFailuresSet_38 ?_
        refine zj_icmpN_eq (n := 42) (tgt := 45) rfl dX10_fewestFailuresSet_39 (by decide) (by first | omega | (have := vfew_lt hW _ (Nat.le_refl _) mm ef; omega) | (have := vnav_le (v := v) (d := 0) (g := g); have := (hW.sh hg).2; unfold vfl; omega)) (by first | omega | (have := vfew_lt hW _ (Nat.le_refl _) mm ef; omega) | (have := vnav_le (v := v) (d := 0) (g := g); have := (hW.sh hg).2; unfold vfl; omega)) (fun c39 => ?_) (fun c39 => ?_)
        · refine zj_aload0 (n := 46) rfl dX10_fewestFailuresSet_45 ?_
          refine zj_iload3 (n := 47) rfl dX10_fewestFailuresSet_46 ?_
          refine zj_iload1 (n := 48) rfl dX10_fewestFailuresSet_47 ?_
          refine zj_callV2 (n := 51) (a' := 0) (b' := 0) rfl dX10_fewestFailuresSet_48 zm_X10_448 (by decide) (by decide) rfl (Nat.le_of_ble_eq_true rfl) (Nat.le_of_ble_eq_true rfl) (Nat.le_of_ble_eq_true rfl) (Nat.le_of_ble_eq_true rfl) (jX10_lowestNodes hA1 hW hd1 hg (vfew_lt hW _ (Nat.le_refl _) mm ef) ?_)
          refine zj_istore4 (n := 53) rfl dX10_fewestFailuresSet_51 rfl (Nat.le_of_ble_eq_true rfl) ?_
          refine zj_iload2 (n := 54) rfl dX10_fewestFailuresSet_53 ?_
          refine zj_iconst_m1 (n := 55) rfl dX10_fewestFailuresSet_54 ?_
          refine zj_icmpO_eq (n := 58) (tgt := 64) rfl dX10_fewestFailuresSet_55 (by decide) (fun m hm => by have := vfs_lt hW g m hm; omega) (fun c55 => ?_) (fun m55 c55 => ?_)
          · refine zj_iload4 (n := 66) rfl dX10_fewestFailuresSet_64 ?_
            refine zj_istore2 (n := 67) rfl dX10_fewestFailuresSet_66 rfl (Nat.le_of_ble_eq_true rfl) ?_
            refine zj_iincN3 (n := 70) rfl dX10_fewestFailuresSet_67 rfl (Nat.le_of_ble_eq_true rfl) ?_
            refine zj_goto (tgt := 14) dX10_fewestFailuresSet_70 (by decide) ?_
            refine zj_keep [true, true, true, true, false] ?_
            have eS : (!vlost v 0 g && decide (some (vfl v g) = vfew v (v 8))) = true := by rw [ef, c30, decide_eq_true (by rw [c39])]; rfl
            rw [vfs_succ] at hk
            rw [show vfsS v g (vfs v g) = some (vlw v g mm (v 6)).1 by unfold vfsS; rw [if_pos eS, c55, c39]; rfl] at hk
            exact hk
          · rw [c55]
            refine zj_iload4 (n := 60) rfl dX10_fewestFailuresSet_58 ?_
            refine zj_iload2 (n := 61) rfl dX10_fewestFailuresSet_60 ?_
            refine zj_icmpN_ge (n := 64) (tgt := 67) rfl dX10_fewestFailuresSet_61 (by decide) (by first | (have := vfs_lt hW g m55 c55; omega) | (have := vlw_lt (v := v) (g := g) (m := mm) (v 6); have : 2 ^ v 6 ≤ 2 ^ 16 := Nat.pow_le_pow_right (by decide) h6; omega)) (by first | (have := vfs_lt hW g m55 c55; omega) | (have := vlw_lt (v := v) (g := g) (m := mm) (v 6); have : 2 ^ v 6 ≤ 2 ^ 16 := Nat.pow_le_pow_right (by decide) h6; omega)) (fun c61 => ?_) (fun c61 => ?_)
            · refine zj_iincN3 (n := 70) rfl dX10_fewestFailuresSet_67 rfl (Nat.le_of_ble_eq_true rfl) ?_
              refine zj_goto (tgt := 14) dX10_fewestFailuresSet_70 (by decide) ?_
              refine zj_keep [true, true, true, true, false] ?_
              have eS : (!vlost v 0 g && decide (some (vfl v g) = vfew v (v 8))) = true := by rw [ef, c30, decide_eq_true (by rw [c39])]; rfl
              rw [vfs_succ] at hk
              rw [show vfsS v g (vfs v g) = vfs v g by unfold vfsS; rw [if_pos eS, c55, c39, decide_eq_false (show ¬ (vlw v g mm (v 6)).1 < (some m55).getD 0 from Nat.not_lt.mpr c61)]; rfl] at hk
              rw [← c55]
              exact hk
            · refine zj_iload4 (n := 66) rfl dX10_fewestFailuresSet_64 ?_
              refine zj_istore2 (n := 67) rfl dX10_fewestFailuresSet_66 rfl (Nat.le_of_ble_eq_true rfl) ?_
              refine zj_iincN3 (n := 70) rfl dX10_fewestFailuresSet_67 rfl (Nat.le_of_ble_eq_true rfl) ?_
              refine zj_goto (tgt := 14) dX10_fewestFailuresSet_70 (by decide) ?_
              refine zj_keep [true, true, true, true, false] ?_
              have eS : (!vlost v 0 g && decide (some (vfl v g) = vfew v (v 8))) = true := by rw [ef, c30, decide_eq_true (by rw [c39])]; rfl
              rw [vfs_succ] at hk
              rw [show vfsS v g (vfs v g) = some (vlw v g mm (v 6)).1 by unfold vfsS; rw [if_pos eS, c55, c39, decide_eq_true (show (vlw v g mm (v 6)).1 < (some m55).getD 0 from c61)]; rfl] at hk
              exact hk
        · refine zj_goto (tgt := 67) dX10_fewestFailuresSet_42 (by decide) ?_
          refine zj_iincN3 (n := 70) rfl dX10_fewestFailuresSet_67 rfl (Nat.le_of_ble_eq_true rfl) ?_
          refine zj_goto (tgt := 14) dX10_fewestFailuresSet_70 (by decide) ?_
          rw [vfs_succ] at hk
          rw [show vfsS v g (vfs v g) = vfs v g by unfold vfsS; rw [ef, decide_eq_false (fun q => c39 (Option.some.inj q)), Bool.and_false, if_neg (by decide)]] at hk
          exact hk
    · skip
      refine zj_iload3 (n := 15) rfl dX10_fewestFailuresSet_14 ?_
      refine zj_aload0 (n := 16) rfl dX10_fewestFailuresSet_15 ?_
      refine zj_getr (n := 19) (q := 119) rfl dX10_fewestFailuresSet_16 zf_X10_17 rfl (by decide) (by decide) rfl ?_
      refine zj_bipushN (v := 8) (n := 21) rfl dX10_fewestFailuresSet_19 (by decide) ?_
      refine zj_ialoadN (e := v 8) (n := 22) rfl dX10_fewestFailuresSet_21 (by decide) (by decide) (by rw [show zLen 119 = 698 from rfl]; omega) (hA1.2.2 _ (by omega)) ?_
      refine zj_icmpN_ge (n := 25) (tgt := 73) rfl dX10_fewestFailuresSet_22 (by decide) (by omega) (by omega) (fun c22 => ?_) (fun c22 => by omega)
      refine zj_iload2 (n := 74) rfl dX10_fewestFailuresSet_73 ?_
      exact zj_ireturn dX10_fewestFailuresSet_74 rfl rfl (h M1 hQ1 ht1)
theorem jX10_lossSum {w d : Nat} {v : zV} {Q : Option Value → zM → Prop} {X : String → zM → Prop} {M : zM} (hA : zRA M w v) (hW : zWF v) (hd : M.1 118 4 = nI d) (hd2 : d < 2 ^ 16) (h : ∀ L, (∀ c, c ≠ 121 → L c = M.2.1 c) → Q (some (.long (lN (vlsum v d (v 8))))) (M.1, L, M.2.2)) : zJ yX10_lossSum cX10_lossSum 4 (some .long) rX10_lossSum Q X rX10_lossSum.cells rX10_lossSum.slots 0 (zEnt 4 [.ref 118]) [] M := by
  have h8 := hW.gN
  show zJ yX10_lossSum cX10_lossSum 4 (some .long) rX10_lossSum Q X 0 0 0 [some (.ref 118), none, none, none] [] M
  refine zj_lconstN_0 (n := 1) rfl dX10_lossSum_0 ?_
  refine zj_lstore1 (n := 2) rfl dX10_lossSum_1 rfl (Nat.le_of_ble_eq_true rfl) ?_
  refine zj_iconstN_0 (n := 3) rfl dX10_lossSum_2 ?_
  refine zj_istore3 (n := 4) rfl dX10_lossSum_3 rfl (Nat.le_of_ble_eq_true rfl) ?_
  refine zFor_rule (P := fun g (_ : Unit) => ∀ L, (∀ c, c ≠ 121 → L c = M.2.1 c) → zJ yX10_lossSum cX10_lossSum 4 (some .long) rX10_lossSum Q X 0 0 4 [some (.ref 118), some (.long (lN (vlsum v d g))), none, some (.int (nI g))] [] (M.1, L, M.2.2)) (n := v 8) (f := fun _ s => s) (s0 := ()) ?_ ?_ M.2.1 (fun _ _ => rfl)
  · intro g _ hg hk L hL
    refine zj_iload3 (n := 5) rfl dX10_lossSum_4 ?_
    refine zj_aload0 (n := 6) rfl dX10_lossSum_5 ?_
    refine zj_getr (n := 9) (q := w) rfl dX10_lossSum_6 zf_X10_24 rfl (by decide) (by decide) hA.now ?_
    refine zj_bipushN (v := 8) (n := 11) rfl dX10_lossSum_9 (by decide) ?_
    refine zj_ialoadN (e := v 8) (n := 12) rfl dX10_lossSum_11 hA.2.1.lt hA.2.1.ty (by rw [hA.2.1.len]; omega) (hA.2.2 _ (by omega)) ?_
    refine zj_icmpN_ge (n := 15) (tgt := 38) rfl dX10_lossSum_12 (by decide) (by omega) (by omega) (fun c12 => by omega) (fun c12 => ?_)
    have hg5 : v (268 + 23 * g + 5) ≤ 9999 := (hW.grp hg).2.2.2.2.2.2.2.2.2.1
    have hvl := vloss_le (v := v) (d := d) (hW.risk hg)
    refine zj_lload1 (n := 16) rfl dX10_lossSum_15 ?_
    refine zj_aload0 (n := 17) rfl dX10_lossSum_16 ?_
    refine zj_iload3 (n := 18) rfl dX10_lossSum_17 ?_
    refine zj_iconstN_5 (n := 19) rfl dX10_lossSum_18 ?_
    refine zj_callV2 (n := 22) (a' := 0) (b' := 0) rfl dX10_lossSum_19 zm_X10_66 (by decide) (by decide) rfl (Nat.le_of_ble_eq_true rfl) (Nat.le_of_ble_eq_true rfl) (Nat.le_of_ble_eq_true rfl) (Nat.le_of_ble_eq_true rfl) (jX10_groupValue (c := 5) (show zRA (M.1, L, M.2.2) w v from hA) (by omega) ?_)
    refine zj_i2lN (n := 23) rfl dX10_lossSum_22 (by omega) ?_
    refine zj_aload0 (n := 24) rfl dX10_lossSum_23 ?_
    refine zj_iload3 (n := 25) rfl dX10_lossSum_24 ?_
    refine zj_callV1 (n := 28) (a' := 0) (b' := 0) rfl dX10_lossSum_25 zm_X10_130 (by decide) (by decide) rfl (Nat.le_of_ble_eq_true rfl) (Nat.le_of_ble_eq_true rfl) (Nat.le_of_ble_eq_true rfl) (Nat.le_of_ble_eq_true rfl) (jX10_lossOf (show zRA (M.1, L, M.2.2) w v from hA) hW hd hd2 hg ?_)
    intro L2 hL2
    refine zj_i2lN (n := 29) rfl dX10_lossSum_28 (by omega) ?_
    refine zj_lmulN (n := 30) rfl dX10_lossSum_29 ?_
    refine zj_laddN (n := 31) rfl dX10_lossSum_30 ?_
    refine zj_lstore1 (n := 32) rfl dX10_lossSum_31 rfl (Nat.le_of_ble_eq_true rfl) ?_
    refine zj_iincN3 (n := 35) rfl dX10_lossSum_32 rfl (Nat.le_of_ble_eq_true rfl) ?_
    refine zj_goto (tgt := 4) dX10_lossSum_35 (by decide) ?_
    exact hk L2 (fun c hc => (hL2 c hc).trans (hL c hc))
  · intro L hL
    refine zj_iload3 (n := 5) rfl dX10_lossSum_4 ?_
    refine zj_aload0 (n := 6) rfl dX10_lossSum_5 ?_
    refine zj_getr (n := 9) (q := w) rfl dX10_lossSum_6 zf_X10_24 rfl (by decide) (by decide) hA.now ?_
    refine zj_bipushN (v := 8) (n := 11) rfl dX10_lossSum_9 (by decide) ?_
    refine zj_ialoadN (e := v 8) (n := 12) rfl dX10_lossSum_11 hA.2.1.lt hA.2.1.ty (by rw [hA.2.1.len]; omega) (hA.2.2 _ (by omega)) ?_
    refine zj_icmpN_ge (n := 15) (tgt := 38) rfl dX10_lossSum_12 (by decide) (by omega) (by omega) (fun c12 => ?_) (fun c12 => by omega)
    refine zj_lload1 (n := 39) rfl dX10_lossSum_38 ?_
    exact zj_lreturn dX10_lossSum_39 rfl (h L hL)
theorem zUx {α : Type} {f : Nat → Nat → α} {k i a j : Nat} {x : α} (h : ¬ (a = k ∧ j = i)) : zU f k i x a j = f a j := by
  by_cases e : a = k
  · subst e; exact zU_nj (fun q => h ⟨rfl, q⟩)
  · exact zU_ne e
theorem jX10_worstNode {v : zV} {Q : Option Value → zM → Prop} {X : String → zM → Prop} {M : zM} (hA : zRA M 119 v) (hW : zWF v) (hd : M.1 118 4 = nI 0) (h : ∀ M', zQm M M' → M'.1 118 0 = nI (a_worst v).1 → Q (some (.int (a_worst v).2)) M') : zJ yX10_worstNode cX10_worstNode 7 (some .int) rX10_worstNode Q X rX10_worstNode.cells rX10_worstNode.slots 0 (zEnt 7 [.ref 118]) [] M := by
  have h6 := hW.nN
  have h7 := hW.tN
  have h8 := hW.gN
  have h9 := hW.hN
  show zJ yX10_worstNode cX10_worstNode 7 (some .int) rX10_worstNode Q X 0 0 0 [some (.ref 118), none, none, none, none, none, none] [] M
  refine zj_aload0 (n := 1) rfl dX10_worstNode_0 ?_
  refine zj_iconstN_0 (n := 2) rfl dX10_worstNode_1 ?_
  refine zj_puti (n := 5) rfl dX10_worstNode_2 zp_X10_3 rfl (by decide) (by decide) ?_
  refine zj_gen (fun M1 => zQm M M1 ∧ M1.1 118 0 = nI 0 ∧ M1.2 = M.2) ⟨zQm.thr, by dsimp only; exact zU_eq, rfl⟩ (fun M1 h1 => ?_)
  obtain ⟨hQ1, ht1, hL1⟩ := h1
  have hA1 := hQ1.ra hA
  have hd1 := hQ1.td hd
  refine zj_iconst_m1 (n := 6) rfl dX10_worstNode_5 ?_
  refine zj_istore1 (n := 7) rfl dX10_worstNode_6 rfl (Nat.le_of_ble_eq_true rfl) ?_
  refine zj_lconstN_0 (n := 8) rfl dX10_worstNode_7 ?_
  refine zj_lstore2 (n := 9) rfl dX10_worstNode_8 rfl (Nat.le_of_ble_eq_true rfl) ?_
  refine zj_iconstN_0 (n := 10) rfl dX10_worstNode_9 ?_
  refine zj_istore4 (n := 12) rfl dX10_worstNode_10 rfl (Nat.le_of_ble_eq_true rfl) ?_
  refine zj_sub (l' := [some (.ref 118), some (.int (zo (vws v 0).1)), some (.long (lN (vws v 0).2)), none, some (.int (nI 0)), none, none]) (by simp only [zLe, eq_self, and_true, true_and, Value.int.injEq, Value.long.injEq]; exact ⟨rfl, rfl⟩) ?_
  refine zFor_rule (P := fun n (_ : Unit) => ∀ M2, (∀ a j, zQmI a j = false → ¬ (a = 118 ∧ j = 4) → M2.1 a j = M.1 a j) → (∀ c j, c ≠ 121 → ¬ (c = 118 ∧ j = 14) → M2.2.1 c j = M.2.1 c j) → M2.2.2 = M.2.2 → M2.1 118 0 = nI 0 → zJ yX10_worstNode cX10_worstNode 7 (some .int) rX10_worstNode Q X 0 0 12 [some (.ref 118), some (.int (zo ((vws v n).1))), some (.long (lN ((vws v n).2))), none, some (.int (nI n)), none, none] [] M2) (n := v 6) (f := fun _ s => s) (s0 := ()) ?_ ?_ M1 (fun a j h1 _ => hQ1.1 a j h1) hQ1.2.1 hQ1.2.2 ht1
  · intro n _ hn hk M2 hF2 hG2 hI2 ht2
    have hA2 : zRA M2 119 v := ⟨(congrArg Prod.snd hI2).trans hA.1, hA.2.1, fun j hj => by rw [hF2 119 j (by simp [zQmI, zSrI]; omega) (by omega)]; exact hA.2.2 j hj⟩
    have hn4 : v (10 + 12 * n + 4) ≤ 2 := (hW.node hn).2.2.2.2
    refine zj_iload4 (n := 14) rfl dX10_worstNode_12 ?_
    refine zj_aload0 (n := 15) rfl dX10_worstNode_14 ?_
    refine zj_getr (n := 18) (q := 119) rfl dX10_worstNode_15 zf_X10_17 rfl (by decide) (by decide) rfl ?_
    refine zj_bipushN (v := 6) (n := 20) rfl dX10_worstNode_18 (by decide) ?_
    refine zj_ialoadN (e := v 6) (n := 21) rfl dX10_worstNode_20 (by decide) (by decide) (by rw [show zLen 119 = 698 from rfl]; omega) (hA2.2.2 _ (by omega)) ?_
    refine zj_icmpN_ge (n := 24) (tgt := 79) rfl dX10_worstNode_21 (by decide) (by omega) (by omega) (fun c21 => by omega) (fun c21 => ?_)
    refine zj_aload0 (n := 25) rfl dX10_worstNode_24 ?_
    refine zj_iload4 (n := 27) rfl dX10_worstNode_25 ?_
    refine zj_iconstN_4 (n := 28) rfl dX10_worstNode_27 ?_
    refine zj_callV2 (n := 31) (a' := 0) (b' := 0) rfl dX10_worstNode_28 zm_X10_77 (by decide) (by decide) rfl (Nat.le_of_ble_eq_true rfl) (Nat.le_of_ble_eq_true rfl) (Nat.le_of_ble_eq_true rfl) (Nat.le_of_ble_eq_true rfl) (jX10_nodeValue (c := 4) hA2 (by omega) ?_)
    refine zj_iconstN_1 (n := 32) rfl dX10_worstNode_31 ?_
    refine zj_icmpN_ne (n := 35) (tgt := 38) rfl dX10_worstNode_32 (by decide) (by omega) (by omega) (fun c32 => ?_) (fun c32 => ?_)
    · refine zj_aload0 (n := 39) rfl dX10_worstNode_38 ?_
      refine zj_iconstN_1 (n := 40) rfl dX10_worstNode_39 ?_
      refine zj_iload4 (n := 42) rfl dX10_worstNode_40 ?_
      refine zj_ishlN1 (n := 43) rfl dX10_worstNode_42 (by omega) ?_
      refine zj_puti (n := 46) rfl dX10_worstNode_43 zp_X10_99 rfl (by decide) (by decide) ?_
      refine zj_aload0 (n := 47) rfl dX10_worstNode_46 ?_
      refine zj_callV0 (n := 50) (a' := 0) (b' := 0) rfl dX10_worstNode_47 zm_X10_416 (by decide) (by decide) rfl (Nat.le_of_ble_eq_true rfl) (Nat.le_of_ble_eq_true rfl) (Nat.le_of_ble_eq_true rfl) (Nat.le_of_ble_eq_true rfl) (jX10_lossSum (d := 2 ^ n) (show zRA (zU M2.1 118 4 (nI (2 ^ n)), M2.2) 119 v from hA2.off (by decide)) hW (by dsimp only; exact zU_eq) (Nat.pow_lt_pow_right (by decide) (by omega)) ?_)
      intro L9 hL9
      refine zj_lstore5 (n := 52) rfl dX10_worstNode_50 rfl (Nat.le_of_ble_eq_true rfl) ?_
      refine zj_iload1 (n := 53) rfl dX10_worstNode_52 ?_
      refine zj_iconst_m1 (n := 54) rfl dX10_worstNode_53 ?_
      refine zj_icmpO_eq (n := 57) (tgt := 67) rfl dX10_worstNode_54 (by decide) (fun m hm => by have := (vws_lt hW n).1 m hm; omega) (fun c54 => ?_) (fun m54 c54 => ?_)
      · refine zj_iload4 (n := 69) rfl dX10_worstNode_67 ?_
        refine zj_istore1 (n := 70) rfl dX10_worstNode_69 rfl (Nat.le_of_ble_eq_true rfl) ?_
        refine zj_lload5 (n := 72) rfl dX10_worstNode_70 ?_
        refine zj_lstore2 (n := 73) rfl dX10_worstNode_72 rfl (Nat.le_of_ble_eq_true rfl) ?_
        refine zj_iincN4 (n := 76) rfl dX10_worstNode_73 rfl (Nat.le_of_ble_eq_true rfl) ?_
        refine zj_goto (tgt := 12) dX10_worstNode_76 (by decide) ?_
        refine zj_keep [true, true, true, false, true, false, false] ?_
        rw [vws_succ] at hk
        rw [show vwsS v n (vws v n) = (some n, vlsum v (2 ^ n) (v 8)) by unfold vwsS; rw [if_neg c32, c54]; rfl] at hk
        exact hk _ (fun a j h1 h2 => by dsimp only; rw [zUx h2]; exact hF2 a j h1 h2) (fun c j h1 h2 => by dsimp only; rw [hL9 c h1]; exact hG2 c j h1 h2) hI2 (by dsimp only; rw [zU_nj (by decide)]; exact ht2)
      · refine zj_lload5 (n := 59) rfl dX10_worstNode_57 ?_
        refine zj_lload2 (n := 60) rfl dX10_worstNode_59 ?_
        refine zj_lcmp (n := 61) rfl dX10_worstNode_60 ?_
        refine zj_ifC_gt (n := 64) (tgt := 67) rfl dX10_worstNode_61 (by decide) (by first | (have := (vws_lt hW n).2; omega) | (have h1 := vlsum_le hW (2 ^ n) (v 8) (Nat.le_refl _); have h2 : v 8 * (9999 * 1000000000) ≤ 10 * (9999 * 1000000000) := Nat.mul_le_mul_right _ h8; omega)) (by first | (have := (vws_lt hW n).2; omega) | (have h1 := vlsum_le hW (2 ^ n) (v 8) (Nat.le_refl _); have h2 : v 8 * (9999 * 1000000000) ≤ 10 * (9999 * 1000000000) := Nat.mul_le_mul_right _ h8; omega)) (fun c61 => ?_) (fun c61 => ?_)
        · refine zj_iload4 (n := 69) rfl dX10_worstNode_67 ?_
          refine zj_istore1 (n := 70) rfl dX10_worstNode_69 rfl (Nat.le_of_ble_eq_true rfl) ?_
          refine zj_lload5 (n := 72) rfl dX10_worstNode_70 ?_
          refine zj_lstore2 (n := 73) rfl dX10_worstNode_72 rfl (Nat.le_of_ble_eq_true rfl) ?_
          refine zj_iincN4 (n := 76) rfl dX10_worstNode_73 rfl (Nat.le_of_ble_eq_true rfl) ?_
          refine zj_goto (tgt := 12) dX10_worstNode_76 (by decide) ?_
          refine zj_keep [true, true, true, false, true, false, false] ?_
          rw [vws_succ] at hk
          rw [show vwsS v n (vws v n) = (some n, vlsum v (2 ^ n) (v 8)) by unfold vwsS; rw [if_neg c32, c54, decide_eq_true c61, Bool.or_true]; rfl] at hk
          exact hk _ (fun a j h1 h2 => by dsimp only; rw [zUx h2]; exact hF2 a j h1 h2) (fun c j h1 h2 => by dsimp only; rw [hL9 c h1]; exact hG2 c j h1 h2) hI2 (by dsimp only; rw [zU_nj (by decide)]; exact ht2)
        · refine zj_goto (tgt := 73) dX10_worstNode_64 (by decide) ?_
          refine zj_iincN4 (n := 76) rfl dX10_worstNode_73 rfl (Nat.le_of_ble_eq_true rfl) ?_
          refine zj_goto (tgt := 12) dX10_worstNode_76 (by decide) ?_
          refine zj_keep [true, true, true, false, true, false, false] ?_
          rw [vws_succ] at hk
          rw [show vwsS v n (vws v n) = vws v n by unfold vwsS; rw [if_neg c32, c54, decide_eq_false (Nat.not_lt.mpr c61)]; rfl] at hk
          exact hk _ (fun a j h1 h2 => by dsimp only; rw [zUx h2]; exact hF2 a j h1 h2) (fun c j h1 h2 => by dsimp only; rw [hL9 c h1]; exact hG2 c j h1 h2) hI2 (by dsimp only; rw [zU_nj (by decide)]; exact ht2)
    · refine zj_goto (tgt := 73) dX10_worstNode_35 (by decide) ?_
      refine zj_iincN4 (n := 76) rfl dX10_worstNode_73 rfl (Nat.le_of_ble_eq_true rfl) ?_
      refine zj_goto (tgt := 12) dX10_worstNode_76 (by decide) ?_
      rw [vws_succ] at hk
      rw [show vwsS v n (vws v n) = vws v n by unfold vwsS; rw [if_pos c32]] at hk
      exact hk M2 hF2 hG2 hI2 ht2
  · intro M2 hF2 hG2 hI2 ht2
    have hA2 : zRA M2 119 v := ⟨(congrArg Prod.snd hI2).trans hA.1, hA.2.1, fun j hj => by rw [hF2 119 j (by simp [zQmI, zSrI]; omega) (by omega)]; exact hA.2.2 j hj⟩
    refine zj_iload4 (n := 14) rfl dX10_worstNode_12 ?_
    refine zj_aload0 (n := 15) rfl dX10_worstNode_14 ?_
    refine zj_getr (n := 18) (q := 119) rfl dX10_worstNode_15 zf_X10_17 rfl (by decide) (by decide) rfl ?_
    refine zj_bipushN (v := 6) (n := 20) rfl dX10_worstNode_18 (by decide) ?_
    refine zj_ialoadN (e := v 6) (n := 21) rfl dX10_worstNode_20 (by decide) (by decide) (by rw [show zLen 119 = 698 from rfl]; omega) (hA2.2.2 _ (by omega)) ?_
    refine zj_icmpN_ge (n := 24) (tgt := 79) rfl dX10_worstNode_21 (by decide) (by omega) (by omega) (fun c21 => ?_) (fun c21 => by omega)
    refine zj_aload0 (n := 80) rfl dX10_worstNode_79 ?_
    refine zj_iconstN_0 (n := 81) rfl dX10_worstNode_80 ?_
    refine zj_puti (n := 84) rfl dX10_worstNode_81 zp_X10_99 rfl (by decide) (by decide) ?_
    refine zj_iload1 (n := 85) rfl dX10_worstNode_84 ?_
    exact zj_ireturn dX10_worstNode_85 rfl rfl (h (zU M2.1 118 4 (nI 0), M2.2) ⟨fun a j hj => by
  dsimp only
  by_cases e : a = 118 ∧ j = 4
  · obtain ⟨rfl, rfl⟩ := e; rw [zU_eq]; exact hd.symm
  · rw [zUx e]; exact hF2 a j hj e, hG2, hI2⟩ (by dsimp only; rw [zU_nj (by decide)]; exact ht2))
def vany (v : zV) : Bool := zAny (v 8) (fun g => vdam v 0 g)
theorem jX10_isAnyDamaged {v : zV} {Q : Option Value → zM → Prop} {X : String → zM → Prop} {M : zM} (hA : zRA M 119 v) (hW : zWF v) (hd : M.1 118 4 = nI 0) (h : Q (some (.int (zb (vany v)))) M) : zJ yX10_isAnyDamaged cX10_isAnyDamaged 3 (some .boolean) rX10_isAnyDamaged Q X rX10_isAnyDamaged.cells rX10_isAnyDamaged.slots 0 (zEnt 3 [.ref 118]) [] M := by
  have h6 := hW.nN
  have h7 := hW.tN
  have h8 := hW.gN
  have h9 := hW.hN
  show zJ yX10_isAnyDamaged cX10_isAnyDamaged 3 (some .boolean) rX10_isAnyDamaged Q X 0 0 0 [some (.ref 118), none, none] [] M
  refine zj_iconstN_0 (n := 1) rfl dX10_isAnyDamaged_0 ?_
  refine zj_istore1 (n := 2) rfl dX10_isAnyDamaged_1 rfl (Nat.le_of_ble_eq_true rfl) ?_
  refine zj_iconstN_0 (n := 3) rfl dX10_isAnyDamaged_2 ?_
  refine zj_istore2 (n := 4) rfl dX10_isAnyDamaged_3 rfl (Nat.le_of_ble_eq_true rfl) ?_
  refine zFor_rule (P := fun g (_ : Unit) => ∀ s, s = zAny g (fun g => vdam v 0 g) → zJ yX10_isAnyDamaged cX10_isAnyDamaged 3 (some .boolean) rX10_isAnyDamaged Q X 0 0 4 [some (.ref 118), some (.int (zb s)), some (.int (nI g))] [] M) (n := v 8) (f := fun _ s => s) (s0 := ()) ?_ ?_ false rfl
  · intro g _ hg hk s hs
    refine zj_iload2 (n := 5) rfl dX10_isAnyDamaged_4 ?_
    refine zj_aload0 (n := 6) rfl dX10_isAnyDamaged_5 ?_
    refine zj_getr (n := 9) (q := 119) rfl dX10_isAnyDamaged_6 zf_X10_17 rfl (by decide) (by decide) rfl ?_
    refine zj_bipushN (v := 8) (n := 11) rfl dX10_isAnyDamaged_9 (by decide) ?_
    refine zj_ialoadN (e := v 8) (n := 12) rfl dX10_isAnyDamaged_11 (by decide) (by decide) (by rw [show zLen 119 = 698 from rfl]; omega) (hA.2.2 _ (by omega)) ?_
    refine zj_icmpN_ge (n := 15) (tgt := 39) rfl dX10_isAnyDamaged_12 (by decide) (by omega) (by omega) (fun c12 => by omega) (fun c12 => ?_)
    refine zj_iload1 (n := 16) rfl dX10_isAnyDamaged_15 ?_
    refine zj_ifB_ne (n := 19) (tgt := 27) rfl dX10_isAnyDamaged_16 (by decide) (fun c16 => ?_) (fun c16 => ?_)
    · refine zj_iconstN_1 (n := 28) rfl dX10_isAnyDamaged_27 ?_
      refine zj_goto (tgt := 32) dX10_isAnyDamaged_28 (by decide) ?_
      refine zj_istore1 (n := 33) rfl dX10_isAnyDamaged_32 rfl (Nat.le_of_ble_eq_true rfl) ?_
      refine zj_iincN2 (n := 36) rfl dX10_isAnyDamaged_33 rfl (Nat.le_of_ble_eq_true rfl) ?_
      refine zj_goto (tgt := 4) dX10_isAnyDamaged_36 (by decide) ?_
      exact hk true (by show true = (zAny g (fun g => vdam v 0 g) || vdam v 0 g); rw [← hs, c16]; rfl)
    · refine zj_aload0 (n := 20) rfl dX10_isAnyDamaged_19 ?_
      refine zj_iload2 (n := 21) rfl dX10_isAnyDamaged_20 ?_
      refine zj_callV1 (n := 24) (a' := 0) (b' := 0) rfl dX10_isAnyDamaged_21 zm_X10_149 (by decide) (by decide) rfl (Nat.le_of_ble_eq_true rfl) (Nat.le_of_ble_eq_true rfl) (Nat.le_of_ble_eq_true rfl) (Nat.le_of_ble_eq_true rfl) (jX10_isDamaged hA hW hd (by decide) hg ?_)
      refine zj_ifB_eq (n := 27) (tgt := 31) rfl dX10_isAnyDamaged_24 (by decide) (fun c24 => ?_) (fun c24 => ?_)
      · refine zj_iconstN_0 (n := 32) rfl dX10_isAnyDamaged_31 ?_
        refine zj_istore1 (n := 33) rfl dX10_isAnyDamaged_32 rfl (Nat.le_of_ble_eq_true rfl) ?_
        refine zj_iincN2 (n := 36) rfl dX10_isAnyDamaged_33 rfl (Nat.le_of_ble_eq_true rfl) ?_
        refine zj_goto (tgt := 4) dX10_isAnyDamaged_36 (by decide) ?_
        exact hk false (by show false = (zAny g (fun g => vdam v 0 g) || vdam v 0 g); rw [← hs, c16, c24]; rfl)
      · refine zj_iconstN_1 (n := 28) rfl dX10_isAnyDamaged_27 ?_
        refine zj_goto (tgt := 32) dX10_isAnyDamaged_28 (by decide) ?_
        refine zj_istore1 (n := 33) rfl dX10_isAnyDamaged_32 rfl (Nat.le_of_ble_eq_true rfl) ?_
        refine zj_iincN2 (n := 36) rfl dX10_isAnyDamaged_33 rfl (Nat.le_of_ble_eq_true rfl) ?_
        refine zj_goto (tgt := 4) dX10_isAnyDamaged_36 (by decide) ?_
        exact hk true (by show true = (zAny g (fun g => vdam v 0 g) || vdam v 0 g); rw [← hs, c16, c24]; rfl)
  · intro s hs
    refine zj_iload2 (n := 5) rfl dX10_isAnyDamaged_4 ?_
    refine zj_aload0 (n := 6) rfl dX10_isAnyDamaged_5 ?_
    refine zj_getr (n := 9) (q := 119) rfl dX10_isAnyDamaged_6 zf_X10_17 rfl (by decide) (by decide) rfl ?_
    refine zj_bipushN (v := 8) (n := 11) rfl dX10_isAnyDamaged_9 (by decide) ?_
    refine zj_ialoadN (e := v 8) (n := 12) rfl dX10_isAnyDamaged_11 (by decide) (by decide) (by rw [show zLen 119 = 698 from rfl]; omega) (hA.2.2 _ (by omega)) ?_
    refine zj_icmpN_ge (n := 15) (tgt := 39) rfl dX10_isAnyDamaged_12 (by decide) (by omega) (by omega) (fun c12 => ?_) (fun c12 => by omega)
    refine zj_iload1 (n := 40) rfl dX10_isAnyDamaged_39 ?_
    refine zj_ireturn dX10_isAnyDamaged_40 rfl (zb_nar _) ?_
    subst hs
    exact h
