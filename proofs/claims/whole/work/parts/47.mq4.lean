/-! THE MODEL'S QUESTIONS: what loses groups -/
theorem zlb : ∀ b, b < 17 → nI (2 ^ b) - nI 1 = nI (2 ^ b - 1) := by decide
/-- a set of nodes is one of those that are there -/
theorem znod {x : Int32} {b : Nat} (hb : b < 31) : x &&& (nI (2 ^ b - 1) ^^^ (-1)) = 0 ↔ zin x (2 ^ b) = true := by
  have hp : (2 : Nat) ^ b ≤ 2 ^ 30 := Nat.pow_le_pow_right (by decide) (by omega)
  have h1 : ∀ i, (nI (2 ^ b - 1)).toBitVec.getLsbD i = decide (i < b) := fun i => by
    show (BitVec.ofNat 32 (2 ^ b - 1)).getLsbD i = _
    rw [BitVec.getLsbD_ofNat, Nat.testBit_two_pow_sub_one]
    by_cases q : i < b
    · simp [q]; omega
    · simp [q]
  constructor
  · intro h
    have h2 : ∀ i, i < 32 → b ≤ i → x.toBitVec.getLsbD i = false := by
      intro i hi hbi
      have h3 : (x &&& (nI (2 ^ b - 1) ^^^ (-1))).toBitVec.getLsbD i = false := by rw [h]; simp
      have h4 : (x.toBitVec &&& ((nI (2 ^ b - 1)).toBitVec ^^^ BitVec.allOnes 32)).getLsbD i = false := h3
      rw [BitVec.getLsbD_and, BitVec.getLsbD_xor, h1 i, BitVec.getLsbD_allOnes] at h4
      simpa [hi, Nat.not_lt.mpr hbi] using h4
    have h5 : x.toBitVec.toNat < 2 ^ b := by
      refine Nat.lt_pow_two_of_testBit _ (fun i hi => ?_)
      rcases Nat.lt_or_ge i 32 with q | q
      · exact h2 i q hi
      · exact Nat.testBit_lt_two_pow (Nat.lt_of_lt_of_le x.toBitVec.isLt (Nat.pow_le_pow_right (by decide) q))
    refine (zin_iff (by omega)).mpr ⟨x.toBitVec.toNat, h5, ?_⟩
    apply Int32.toBitVec_inj.mp
    show x.toBitVec = BitVec.ofNat 32 x.toBitVec.toNat
    rw [BitVec.ofNat_toNat]; simp
  · intro h
    obtain ⟨j, hj, rfl⟩ := (zin_iff (by omega)).mp h
    have := zdiffN (a := j) (b := 2 ^ b - 1) (c := 0) (fun i => by
      rw [Nat.zero_testBit, Nat.testBit_two_pow_sub_one]
      by_cases q : i < b
      · simp [q]
      · rw [Nat.testBit_lt_two_pow (Nat.lt_of_lt_of_le hj (Nat.pow_le_pow_right (by decide) (by omega)))]; rfl)
    rw [this]; rfl
theorem jX10_lostBy {v : zV} {x : Int32} {Q : Option Value → zM → Prop} {X : String → zM → Prop} {M : zM} (hA : zRA M 119 v) (hW : zWF v) (hd : M.1 118 4 = nI 0) (h : ∀ M', zQm M M' → M'.1 118 0 = nI (a_lostBy v x).1 → Q (some (.int (a_lostBy v x).2)) M') : zJ yX10_lostBy cX10_lostBy 3 (some .int) rX10_lostBy Q X rX10_lostBy.cells rX10_lostBy.slots 0 (zEnt 3 [.ref 118, .int x]) [] M := by
  have h6 := hW.nN
  have h7 := hW.tN
  have h8 := hW.gN
  have h9 := hW.hN
  show zJ yX10_lostBy cX10_lostBy 3 (some .int) rX10_lostBy Q X 0 0 0 [some (.ref 118), some (.int x), none] [] M
  refine zj_aload0 (n := 1) rfl dX10_lostBy_0 ?_
  refine zj_iload1 (n := 2) rfl dX10_lostBy_1 ?_
  refine zj_iconstN_1 (n := 3) rfl dX10_lostBy_2 ?_
  refine zj_aload0 (n := 4) rfl dX10_lostBy_3 ?_
  refine zj_getr (n := 7) (q := 119) rfl dX10_lostBy_4 zf_X10_17 rfl (by decide) (by decide) rfl ?_
  refine zj_bipushN (v := 6) (n := 9) rfl dX10_lostBy_7 (by decide) ?_
  refine zj_ialoadN (e := v 6) (n := 10) rfl dX10_lostBy_9 (by decide) (by decide) (by rw [show zLen 119 = 698 from rfl]; omega) (hA.2.2 _ (by omega)) ?_
  refine zj_ishlN1 (n := 11) rfl dX10_lostBy_10 (by omega) ?_
  refine zj_iconstN_1 (n := 12) rfl dX10_lostBy_11 ?_
  refine zj_isubN (n := 13) rfl dX10_lostBy_12 (Nat.one_le_two_pow) ?_
  refine zj_iconst_m1 (n := 14) rfl dX10_lostBy_13 ?_
  refine zj_ixor (n := 15) rfl dX10_lostBy_14 ?_
  refine zj_iand (n := 16) rfl dX10_lostBy_15 ?_
  refine zj_if_ne (n := 19) (tgt := 23) rfl dX10_lostBy_16 (by decide) (fun c16 => ?_) (fun c16 => ?_)
  · refine zj_iconstN_0 (n := 24) rfl dX10_lostBy_23 ?_
    refine zj_callV1 (n := 27) (a' := 0) (b' := 0) rfl dX10_lostBy_24 zm_X10_216 (by decide) (by decide) rfl (Nat.le_of_ble_eq_true rfl) (Nat.le_of_ble_eq_true rfl) (Nat.le_of_ble_eq_true rfl) (Nat.le_of_ble_eq_true rfl) (jX10_passesQ (p := false) ?_)
    intro M1 hQ1 hF1 hL1 h118 ht1
    have hA1 := hQ1.ra hA
    have hd1 := hQ1.td hd
    rw [show zb false = nI 0 from rfl]
    refine zj_ifN_ne (n := 30) (tgt := 32) rfl dX10_lostBy_27 (by decide) (by omega) (fun h => absurd h (by decide)) (fun _ => ?_)
    refine zj_iconstN_0 (n := 31) rfl dX10_lostBy_30 ?_
    refine zj_ireturn dX10_lostBy_31 rfl rfl ?_
    have e : zin x (2 ^ v 6) = false := by cases e : zin x (2 ^ v 6) with | false => rfl | true => exact absurd ((znod (by omega)).mpr e) c16
    simp only [a_lostBy, e, if_true, if_false, Bool.false_eq_true, Bool.and_true, Bool.and_false, Bool.true_and, Bool.false_and] at h
    exact h M1 hQ1 (by rw [ht1]; rfl)
  · have c16x := (znod (by omega)).mp c16
    obtain ⟨n, hn, rfl⟩ := (zin_iff (Nat.lt_of_le_of_lt (Nat.pow_le_pow_right (by decide) h6) (by decide))).mp c16x
    have hn31 : n < 2 ^ 31 := Nat.lt_of_lt_of_le hn (Nat.le_trans (Nat.pow_le_pow_right (by decide) h6) (by decide))
    refine zj_iconstN_1 (n := 20) rfl dX10_lostBy_19 ?_
    refine zj_goto (tgt := 24) dX10_lostBy_20 (by decide) ?_
    refine zj_callV1 (n := 27) (a' := 0) (b' := 0) rfl dX10_lostBy_24 zm_X10_216 (by decide) (by decide) rfl (Nat.le_of_ble_eq_true rfl) (Nat.le_of_ble_eq_true rfl) (Nat.le_of_ble_eq_true rfl) (Nat.le_of_ble_eq_true rfl) (jX10_passesQ (p := true) ?_)
    intro M1 hQ1 hF1 hL1 h118 ht1
    have hA1 := hQ1.ra hA
    have hd1 := hQ1.td hd
    rw [show zb true = nI 1 from rfl]
    refine zj_ifN_ne (n := 30) (tgt := 32) rfl dX10_lostBy_27 (by decide) (by omega) (fun _ => ?_) (fun h => absurd h (by decide))
    refine zj_aload0 (n := 33) rfl dX10_lostBy_32 ?_
    refine zj_iload1 (n := 34) rfl dX10_lostBy_33 ?_
    refine zj_puti (n := 37) rfl dX10_lostBy_34 zp_X10_99 rfl (by decide) (by decide) ?_
    refine zj_aload0 (n := 38) rfl dX10_lostBy_37 ?_
    refine zj_callV0 (n := 41) (a' := 0) (b' := 0) rfl dX10_lostBy_38 zm_X10_411 (by decide) (by decide) rfl (Nat.le_of_ble_eq_true rfl) (Nat.le_of_ble_eq_true rfl) (Nat.le_of_ble_eq_true rfl) (Nat.le_of_ble_eq_true rfl) (jX10_lostSet (d := n) (show zRA (zU M1.1 118 4 (nI n), M1.2) 119 v from hA1.off (by decide)) hW (by dsimp only; exact zU_eq) (Nat.lt_of_lt_of_le hn (Nat.pow_le_pow_right (by decide) h6)) ?_)
    refine zj_istore2 (n := 42) rfl dX10_lostBy_41 rfl (Nat.le_of_ble_eq_true rfl) ?_
    refine zj_aload0 (n := 43) rfl dX10_lostBy_42 ?_
    refine zj_iconstN_0 (n := 44) rfl dX10_lostBy_43 ?_
    refine zj_puti (n := 47) rfl dX10_lostBy_44 zp_X10_99 rfl (by decide) (by decide) ?_
    refine zj_iload2 (n := 48) rfl dX10_lostBy_47 ?_
    refine zj_ireturn dX10_lostBy_48 rfl rfl ?_
    simp only [a_lostBy, c16x, if_true, if_false, Bool.false_eq_true, Bool.and_true, Bool.and_false, Bool.true_and, Bool.false_and, xn_at hn31] at h
    refine h _ ⟨fun a j hj => ?_, fun c j hc h2 => hQ1.2.1 c j hc h2, hQ1.2.2⟩ ?_
    · dsimp only
      by_cases e : a = 118 ∧ j = 4
      · obtain ⟨rfl, rfl⟩ := e
        rw [zU_eq]; exact hd.symm
      · have e2 : ∀ (f : Nat → Nat → Int32) (x : Int32), zU f 118 4 x a j = f a j := fun f x => by
          by_cases e3 : a = 118
          · subst e3; exact zU_nj (by omega)
          · exact zU_ne e3
        rw [e2, e2]; exact hQ1.1 a j hj
    · dsimp only
      rw [zU_nj (by decide), zU_nj (by decide), ht1]; rfl
theorem zfail {v : zV} (hW : zWF v) {g : Nat} (hg : g < v 8) (hl : vlost v 0 g = false) : nI (vnav v 0 g) - nI (v (268 + 23 * g + 2)) + nI 1 = nI (vfl v g) := by
  have h1 : ¬ vnav v 0 g < v (268 + 23 * g + 2) := of_decide_eq_false hl
  rw [pk_sub (by omega), nI_add]; rfl
theorem jX10_failuresOf {v : zV} {g : Nat} {Q : Option Value → zM → Prop} {X : String → zM → Prop} {M : zM} (hA : zRA M 119 v) (hW : zWF v) (hd : M.1 118 4 = nI 0) (hg : g < v 8) (hl : vlost v 0 g = false) (h : Q (some (.int (nI (vfl v g)))) M) : zJ yX10_failuresOf cX10_failuresOf 2 (some .int) rX10_failuresOf Q X rX10_failuresOf.cells rX10_failuresOf.slots 0 (zEnt 2 [.ref 118, .int (nI g)]) [] M := by
  have h6 := hW.nN
  have h7 := hW.tN
  have h8 := hW.gN
  have h9 := hW.hN
  have h1 : ¬ vnav v 0 g < v (268 + 23 * g + 2) := of_decide_eq_false hl
  show zJ yX10_failuresOf cX10_failuresOf 2 (some .int) rX10_failuresOf Q X 0 0 0 [some (.ref 118), some (.int (nI g))] [] M
  refine zj_aload0 (n := 1) rfl dX10_failuresOf_0 ?_
  refine zj_iload1 (n := 2) rfl dX10_failuresOf_1 ?_
  refine zj_callV1 (n := 5) (a' := 0) (b' := 0) rfl dX10_failuresOf_2 zm_X10_115 (by decide) (by decide) rfl (Nat.le_of_ble_eq_true rfl) (Nat.le_of_ble_eq_true rfl) (Nat.le_of_ble_eq_true rfl) (Nat.le_of_ble_eq_true rfl) (jX10_availableOf hA hW hd (by decide) hg ?_)
  refine zj_aload0 (n := 6) rfl dX10_failuresOf_5 ?_
  refine zj_iload1 (n := 7) rfl dX10_failuresOf_6 ?_
  refine zj_iconstN_2 (n := 8) rfl dX10_failuresOf_7 ?_
  refine zj_callV2 (n := 11) (a' := 0) (b' := 0) rfl dX10_failuresOf_8 zm_X10_66 (by decide) (by decide) rfl (Nat.le_of_ble_eq_true rfl) (Nat.le_of_ble_eq_true rfl) (Nat.le_of_ble_eq_true rfl) (Nat.le_of_ble_eq_true rfl) (jX10_groupValue (c := 2) hA (by omega) ?_)
  refine zj_isubN (n := 12) rfl dX10_failuresOf_11 (by omega) ?_
  refine zj_iconstN_1 (n := 13) rfl dX10_failuresOf_12 ?_
  refine zj_iaddN (n := 14) rfl dX10_failuresOf_13 ?_
  exact zj_ireturn dX10_failuresOf_14 rfl rfl h
theorem jX10_fewest {v : zV} {Q : Option Value → zM → Prop} {X : String → zM → Prop} {M : zM} (hA : zRA M 119 v) (hW : zWF v) (hd : M.1 118 4 = nI 0) (h : Q (some (.int (zo (vfew v (v 8))))) M) : zJ yX10_fewest cX10_fewest 3 (some .int) rX10_fewest Q X rX10_fewest.cells rX10_fewest.slots 0 (zEnt 3 [.ref 118]) [] M := by
  have h6 := hW.nN
  have h7 := hW.tN
  have h8 := hW.gN
  have h9 := hW.hN
  show zJ yX10_fewest cX10_fewest 3 (some .int) rX10_fewest Q X 0 0 0 [some (.ref 118), none, none] [] M
  refine zj_iconst_m1 (n := 1) rfl dX10_fewest_0 ?_
  refine zj_istore1 (n := 2) rfl dX10_fewest_1 rfl (Nat.le_of_ble_eq_true rfl) ?_
  refine zj_iconstN_0 (n := 3) rfl dX10_fewest_2 ?_
  refine zj_istore2 (n := 4) rfl dX10_fewest_3 rfl (Nat.le_of_ble_eq_true rfl) ?_
  refine zj_sub (l' := [some (.ref 118), some (.int (zo (vfew v 0))), some (.int (nI 0))]) (by simp only [zLe, eq_self, and_true, true_and, Value.int.injEq]; exact rfl) ?_
  refine zFor_rule (P := fun g (_ : Unit) => zJ yX10_fewest cX10_fewest 3 (some .int) rX10_fewest Q X 0 0 4 [some (.ref 118), some (.int (zo (vfew v g))), some (.int (nI g))] [] M) (n := v 8) (f := fun _ s => s) (s0 := ()) ?_ ?_
  · intro g _ hg hk
    refine zj_iload2 (n := 5) rfl dX10_fewest_4 ?_
    refine zj_aload0 (n := 6) rfl dX10_fewest_5 ?_
    refine zj_getr (n := 9) (q := 119) rfl dX10_fewest_6 zf_X10_17 rfl (by decide) (by decide) rfl ?_
    refine zj_bipushN (v := 8) (n := 11) rfl dX10_fewest_9 (by decide) ?_
    refine zj_ialoadN (e := v 8) (n := 12) rfl dX10_fewest_11 (by decide) (by decide) (by rw [show zLen 119 = 698 from rfl]; omega) (hA.2.2 _ (by omega)) ?_
    refine zj_icmpN_ge (n := 15) (tgt := 49) rfl dX10_fewest_12 (by decide) (by omega) (by omega) (fun c12 => by omega) (fun c12 => ?_)
    refine zj_aload0 (n := 16) rfl dX10_fewest_15 ?_
    refine zj_iload2 (n := 17) rfl dX10_fewest_16 ?_
    refine zj_callV1 (n := 20) (a' := 0) (b' := 0) rfl dX10_fewest_17 zm_X10_121 (by decide) (by decide) rfl (Nat.le_of_ble_eq_true rfl) (Nat.le_of_ble_eq_true rfl) (Nat.le_of_ble_eq_true rfl) (Nat.le_of_ble_eq_true rfl) (jX10_isLost hA hW hd (by decide) hg ?_)
    refine zj_ifB_ne (n := 23) (tgt := 43) rfl dX10_fewest_20 (by decide) (fun c20 => ?_) (fun c20 => ?_)
    · refine zj_iincN2 (n := 46) rfl dX10_fewest_43 rfl (Nat.le_of_ble_eq_true rfl) ?_
      refine zj_goto (tgt := 4) dX10_fewest_46 (by decide) ?_
      rw [vfew_succ, c20, Bool.not_true, Bool.false_and, if_neg (by decide)] at hk
      exact hk
    · refine zj_iload1 (n := 24) rfl dX10_fewest_23 ?_
      refine zj_iconst_m1 (n := 25) rfl dX10_fewest_24 ?_
      refine zj_icmpO_eq (n := 28) (tgt := 37) rfl dX10_fewest_25 (by decide) (fun m hm => by have := vfew_lt hW g (by omega) m hm; omega) (fun c25 => ?_) (fun m25 c25 => ?_)
      · refine zj_aload0 (n := 38) rfl dX10_fewest_37 ?_
        refine zj_iload2 (n := 39) rfl dX10_fewest_38 ?_
        refine zj_callV1 (n := 42) (a' := 0) (b' := 0) rfl dX10_fewest_39 zm_X10_442 (by decide) (by decide) rfl (Nat.le_of_ble_eq_true rfl) (Nat.le_of_ble_eq_true rfl) (Nat.le_of_ble_eq_true rfl) (Nat.le_of_ble_eq_true rfl) (jX10_failuresOf hA hW hd hg c20 ?_)
        refine zj_istore1 (n := 43) rfl dX10_fewest_42 rfl (Nat.le_of_ble_eq_true rfl) ?_
        refine zj_iincN2 (n := 46) rfl dX10_fewest_43 rfl (Nat.le_of_ble_eq_true rfl) ?_
        refine zj_goto (tgt := 4) dX10_fewest_46 (by decide) ?_
        rw [vfew_succ, c20, c25, if_pos (by rfl)] at hk
        exact hk
      · rw [c25]
        refine zj_aload0 (n := 29) rfl dX10_fewest_28 ?_
        refine zj_iload2 (n := 30) rfl dX10_fewest_29 ?_
        refine zj_callV1 (n := 33) (a' := 0) (b' := 0) rfl dX10_fewest_30 zm_X10_442 (by decide) (by decide) rfl (Nat.le_of_ble_eq_true rfl) (Nat.le_of_ble_eq_true rfl) (Nat.le_of_ble_eq_true rfl) (Nat.le_of_ble_eq_true rfl) (jX10_failuresOf hA hW hd hg c20 ?_)
        refine zj_iload1 (n := 34) rfl dX10_fewest_33 ?_
        refine zj_icmpN_ge (n := 37) (tgt := 43) rfl dX10_fewest_34 (by decide) (by first | omega | (have := vfew_lt hW g (by omega) m25 c25; omega) | (have := vnav_le (v := v) (d := 0) (g := g); have := (hW.sh hg).2; unfold vfl; omega)) (by first | omega | (have := vfew_lt hW g (by omega) m25 c25; omega) | (have := vnav_le (v := v) (d := 0) (g := g); have := (hW.sh hg).2; unfold vfl; omega)) (fun c34 => ?_) (fun c34 => ?_)
        · refine zj_iincN2 (n := 46) rfl dX10_fewest_43 rfl (Nat.le_of_ble_eq_true rfl) ?_
          refine zj_goto (tgt := 4) dX10_fewest_46 (by decide) ?_
          have e9 : decide (vfl v g < (vfew v g).getD 0) = false := by rw [c25]; exact decide_eq_false (by show ¬ vfl v g < m25; omega)
          rw [vfew_succ, c20, e9, show (vfew v g).isNone = false by rw [c25]; rfl, if_neg (by decide)] at hk
          rw [← c25]
          exact hk
        · refine zj_aload0 (n := 38) rfl dX10_fewest_37 ?_
          refine zj_iload2 (n := 39) rfl dX10_fewest_38 ?_
          refine zj_callV1 (n := 42) (a' := 0) (b' := 0) rfl dX10_fewest_39 zm_X10_442 (by decide) (by decide) rfl (Nat.le_of_ble_eq_true rfl) (Nat.le_of_ble_eq_true rfl) (Nat.le_of_ble_eq_true rfl) (Nat.le_of_ble_eq_true rfl) (jX10_failuresOf hA hW hd hg c20 ?_)
          refine zj_istore1 (n := 43) rfl dX10_fewest_42 rfl (Nat.le_of_ble_eq_true rfl) ?_
          refine zj_iincN2 (n := 46) rfl dX10_fewest_43 rfl (Nat.le_of_ble_eq_true rfl) ?_
          refine zj_goto (tgt := 4) dX10_fewest_46 (by decide) ?_
          have e9 : decide (vfl v g < (vfew v g).getD 0) = true := by rw [c25]; exact decide_eq_true (show vfl v g < m25 by omega)
          rw [vfew_succ, c20, e9, Bool.or_true, if_pos (by rfl)] at hk
          exact hk
  · skip
    refine zj_iload2 (n := 5) rfl dX10_fewest_4 ?_
    refine zj_aload0 (n := 6) rfl dX10_fewest_5 ?_
    refine zj_getr (n := 9) (q := 119) rfl dX10_fewest_6 zf_X10_17 rfl (by decide) (by decide) rfl ?_
    refine zj_bipushN (v := 8) (n := 11) rfl dX10_fewest_9 (by decide) ?_
    refine zj_ialoadN (e := v 8) (n := 12) rfl dX10_fewest_11 (by decide) (by decide) (by rw [show zLen 119 = 698 from rfl]; omega) (hA.2.2 _ (by omega)) ?_
    refine zj_icmpN_ge (n := 15) (tgt := 49) rfl dX10_fewest_12 (by decide) (by omega) (by omega) (fun c12 => ?_) (fun c12 => by omega)
    refine zj_iload1 (n := 50) rfl dX10_fewest_49 ?_
    exact zj_ireturn dX10_fewest_50 rfl rfl h
theorem jX10_fewestFailures {v : zV} {Q : Option Value → zM → Prop} {X : String → zM → Prop} {M : zM} (hA : zRA M 119 v) (hW : zWF v) (hd : M.1 118 4 = nI 0) (h : ∀ M', zQm M M' → M'.1 118 0 = nI (a_fewest v).1 → Q (some (.int (a_fewest v).2)) M') : zJ yX10_fewestFailures cX10_fewestFailures 1 (some .int) rX10_fewestFailures Q X rX10_fewestFailures.cells rX10_fewestFailures.slots 0 (zEnt 1 [.ref 118]) [] M := by
  have h6 := hW.nN
  have h7 := hW.tN
  have h8 := hW.gN
  have h9 := hW.hN
  show zJ yX10_fewestFailures cX10_fewestFailures 1 (some .int) rX10_fewestFailures Q X 0 0 0 [some (.ref 118)] [] M
  refine zj_aload0 (n := 1) rfl dX10_fewestFailures_0 ?_
  refine zj_iconstN_0 (n := 2) rfl dX10_fewestFailures_1 ?_
  refine zj_puti (n := 5) rfl dX10_fewestFailures_2 zp_X10_3 rfl (by decide) (by decide) ?_
  refine zj_gen (fun M1 => zQm M M1 ∧ M1.1 118 0 = nI 0 ∧ M1.2 = M.2) ⟨zQm.thr, by dsimp only; exact zU_eq, rfl⟩ (fun M1 h1 => ?_)
  obtain ⟨hQ1, ht1, hL1⟩ := h1
  have hA1 := hQ1.ra hA
  have hd1 := hQ1.td hd
  refine zj_aload0 (n := 6) rfl dX10_fewestFailures_5 ?_
  refine zj_callV0 (n := 9) (a' := 0) (b' := 0) rfl dX10_fewestFailures_6 zm_X10_445 (by decide) (by decide) rfl (Nat.le_of_ble_eq_true rfl) (Nat.le_of_ble_eq_true rfl) (Nat.le_of_ble_eq_true rfl) (Nat.le_of_ble_eq_true rfl) (jX10_fewest hA1 hW hd1 ?_)
  exact zj_ireturn dX10_fewestFailures_9 rfl rfl (h M1 hQ1 ht1)
theorem vlw_done {v : zV} {g m k : Nat} (h : (vlw v g m k).2 = 0) : ∀ j, vlw v g m (k + j) = vlw v g m k := by
  intro j
  induction j with
  | zero => rfl
  | succ j ih =>
    show vlwS v g (k + j) (vlw v g m (k + j)) = _
    rw [ih]
    unfold vlwS
    rw [if_pos h]
theorem vlw_le {v : zV} {g m : Nat} : ∀ k, (vlw v g m k).2 ≤ m := by
  intro k
  induction k with
  | zero => exact Nat.le_refl _
  | succ k ih =>
    rw [vlw_succ]
    unfold vlwS
    split
    · exact ih
    · split
      · exact ih
      · dsimp only; omega
theorem jX10_lowestNodes {v : zV} {g m : Nat} {Q : Option Value → zM → Prop} {X : String → zM → Prop} {M : zM} (hA : zRA M 119 v) (hW : zWF v) (hd : M.1 118 4 = nI 0) (hg : g < v 8) (hm : m ≤ 11) (h : Q (some (.int (nI (vlw v g m (v 6)).1))) M) : zJ yX10_lowestNodes cX10_lowestNodes 6 (some .int) rX10_lowestNodes Q X rX10_lowestNodes.cells rX10_lowestNodes.slots 0 (zEnt 6 [.ref 118, .int (nI g), .int (nI m)]) [] M := by
  have h6 := hW.nN
  have h7 := hW.tN
  have h8 := hW.gN
  have h9 := hW.hN
  show zJ yX10_lowestNodes cX10_lowestNodes 6 (some .int) rX10_lowestNodes Q X 0 0 0 [some (.ref 118), some (.int (nI g)), some (.int (nI m)), none, none, none] [] M
  refine zj_iconstN_0 (n := 1) rfl dX10_lowestNodes_0 ?_
  refine zj_istore3 (n := 2) rfl dX10_lowestNodes_1 rfl (Nat.le_of_ble_eq_true rfl) ?_
  refine zj_iload2 (n := 3) rfl dX10_lowestNodes_2 ?_
  refine zj_istore4 (n := 5) rfl dX10_lowestNodes_3 rfl (Nat.le_of_ble_eq_true rfl) ?_
  refine zj_iconstN_0 (n := 6) rfl dX10_lowestNodes_5 ?_
  refine zj_istore5 (n := 8) rfl dX10_lowestNodes_6 rfl (Nat.le_of_ble_eq_true rfl) ?_
  refine zj_sub (l' := [some (.ref 118), some (.int (nI g)), some (.int (nI m)), some (.int (nI (vlw v g m 0).1)), some (.int (nI (vlw v g m 0).2)), some (.int (nI 0))]) (by simp only [zLe, eq_self, and_true, true_and, Value.int.injEq]; exact ⟨rfl, rfl⟩) ?_
  refine zFor_rule (P := fun n (_ : Unit) => zJ yX10_lowestNodes cX10_lowestNodes 6 (some .int) rX10_lowestNodes Q X 0 0 8 [some (.ref 118), some (.int (nI g)), some (.int (nI m)), some (.int (nI ((vlw v g m n).1))), some (.int (nI ((vlw v g m n).2))), some (.int (nI n))] [] M) (n := v 6) (f := fun _ s => s) (s0 := ()) ?_ ?_
  · intro n _ hn hk
    have hle := vlw_le (v := v) (g := g) (m := m) n
    refine zj_iload5 (n := 10) rfl dX10_lowestNodes_8 ?_
    refine zj_aload0 (n := 11) rfl dX10_lowestNodes_10 ?_
    refine zj_getr (n := 14) (q := 119) rfl dX10_lowestNodes_11 zf_X10_17 rfl (by decide) (by decide) rfl ?_
    refine zj_bipushN (v := 6) (n := 16) rfl dX10_lowestNodes_14 (by decide) ?_
    refine zj_ialoadN (e := v 6) (n := 17) rfl dX10_lowestNodes_16 (by decide) (by decide) (by rw [show zLen 119 = 698 from rfl]; omega) (hA.2.2 _ (by omega)) ?_
    refine zj_icmpN_ge (n := 20) (tgt := 70) rfl dX10_lowestNodes_17 (by decide) (by omega) (by omega) (fun c17 => by omega) (fun c17 => ?_)
    refine zj_iload4 (n := 22) rfl dX10_lowestNodes_20 ?_
    refine zj_ifN_le (n := 25) (tgt := 70) rfl dX10_lowestNodes_22 (by decide) (by omega) (fun c22 => ?_) (fun c22 => ?_)
    · refine zj_iload3 (n := 71) rfl dX10_lowestNodes_70 ?_
      refine zj_ireturn dX10_lowestNodes_71 rfl rfl ?_
      have e := vlw_done c22 (v 6 - n)
      rw [show n + (v 6 - n) = v 6 by omega] at e
      rw [← e]
      exact h
    · have hn4 : v (10 + 12 * n + 4) ≤ 2 := (hW.node hn).2.2.2.2
      refine zj_aload0 (n := 26) rfl dX10_lowestNodes_25 ?_
      refine zj_iload5 (n := 28) rfl dX10_lowestNodes_26 ?_
      refine zj_iconstN_4 (n := 29) rfl dX10_lowestNodes_28 ?_
      refine zj_callV2 (n := 32) (a' := 0) (b' := 0) rfl dX10_lowestNodes_29 zm_X10_77 (by decide) (by decide) rfl (Nat.le_of_ble_eq_true rfl) (Nat.le_of_ble_eq_true rfl) (Nat.le_of_ble_eq_true rfl) (Nat.le_of_ble_eq_true rfl) (jX10_nodeValue (c := 4) hA (by omega) ?_)
      refine zj_iconstN_1 (n := 33) rfl dX10_lowestNodes_32 ?_
      refine zj_icmpN_eq (n := 36) (tgt := 64) rfl dX10_lowestNodes_33 (by decide) (by omega) (by omega) (fun c33 => ?_) (fun c33 => ?_)
      · refine zj_iincN5 (n := 67) rfl dX10_lowestNodes_64 rfl (Nat.le_of_ble_eq_true rfl) ?_
        refine zj_goto (tgt := 8) dX10_lowestNodes_67 (by decide) ?_
        rw [vlw_succ, show vlwS v g n (vlw v g m n) = vlw v g m n by unfold vlwS; rw [if_neg (by omega), if_pos (Or.inl c33)]] at hk
        exact hk
      · refine zj_aload0 (n := 37) rfl dX10_lowestNodes_36 ?_
        refine zj_iload1 (n := 38) rfl dX10_lowestNodes_37 ?_
        refine zj_aload0 (n := 39) rfl dX10_lowestNodes_38 ?_
        refine zj_iload1 (n := 40) rfl dX10_lowestNodes_39 ?_
        refine zj_callV1 (n := 43) (a' := 0) (b' := 0) rfl dX10_lowestNodes_40 zm_X10_70 (by decide) (by decide) rfl (Nat.le_of_ble_eq_true rfl) (Nat.le_of_ble_eq_true rfl) (Nat.le_of_ble_eq_true rfl) (Nat.le_of_ble_eq_true rfl) (jX10_shardsOf hA (by omega) ?_)
        refine zj_iload5 (n := 45) rfl dX10_lowestNodes_43 ?_
        refine zj_callV3 (n := 48) (a' := 0) (b' := 0) rfl dX10_lowestNodes_45 zm_X10_83 (by decide) (by decide) rfl (Nat.le_of_ble_eq_true rfl) (Nat.le_of_ble_eq_true rfl) (Nat.le_of_ble_eq_true rfl) (Nat.le_of_ble_eq_true rfl) (jX10_hasShardOn hA (by omega) (by have := (hW.sh hg).2; omega) (fun s hs => by have := hW.holds hg hs; omega) (by omega) ?_)
        refine zj_ifB_ne (n := 51) (tgt := 54) rfl dX10_lowestNodes_48 (by decide) (fun c48 => ?_) (fun c48 => ?_)
        · refine zj_iload3 (n := 55) rfl dX10_lowestNodes_54 ?_
          refine zj_iconstN_1 (n := 56) rfl dX10_lowestNodes_55 ?_
          refine zj_iload5 (n := 58) rfl dX10_lowestNodes_56 ?_
          refine zj_ishlN1 (n := 59) rfl dX10_lowestNodes_58 (by omega) ?_
          refine zj_ior (n := 60) rfl dX10_lowestNodes_59 ?_
          refine zj_istore3 (n := 61) rfl dX10_lowestNodes_60 rfl (Nat.le_of_ble_eq_true rfl) ?_
          refine zj_idecN4 (n := 64) rfl dX10_lowestNodes_61 rfl (Nat.le_of_ble_eq_true rfl) (by omega) ?_
          refine zj_iincN5 (n := 67) rfl dX10_lowestNodes_64 rfl (Nat.le_of_ble_eq_true rfl) ?_
          refine zj_goto (tgt := 8) dX10_lowestNodes_67 (by decide) ?_
          have hl := vlw_lt (v := v) (g := g) (m := m) n
          rw [zor hl (by omega)]
          rw [vlw_succ, show vlwS v g n (vlw v g m n) = ((vlw v g m n).1 + 2 ^ n, (vlw v g m n).2 - 1) by unfold vlwS; rw [if_neg (by omega), if_neg (by rintro (q | q); exact c33 q; rw [c48] at q; cases q)]] at hk
          exact hk
        · refine zj_goto (tgt := 64) dX10_lowestNodes_51 (by decide) ?_
          refine zj_iincN5 (n := 67) rfl dX10_lowestNodes_64 rfl (Nat.le_of_ble_eq_true rfl) ?_
          refine zj_goto (tgt := 8) dX10_lowestNodes_67 (by decide) ?_
          rw [vlw_succ, show vlwS v g n (vlw v g m n) = vlw v g m n by unfold vlwS; rw [if_neg (by omega), if_pos (Or.inr c48)]] at hk
          exact hk
  · skip
    refine zj_iload5 (n := 10) rfl dX10_lowestNodes_8 ?_
    refine zj_aload0 (n := 11) rfl dX10_lowestNodes_10 ?_
    refine zj_getr (n := 14) (q := 119) rfl dX10_lowestNodes_11 zf_X10_17 rfl (by decide) (by decide) rfl ?_
    refine zj_bipushN (v := 6) (n := 16) rfl dX10_lowestNodes_14 (by decide) ?_
    refine zj_ialoadN (e := v 6) (n := 17) rfl dX10_lowestNodes_16 (by decide) (by decide) (by rw [show zLen 119 = 698 from rfl]; omega) (hA.2.2 _ (by omega)) ?_
    refine zj_icmpN_ge (n := 20) (tgt := 70) rfl dX10_lowestNodes_17 (by decide) (by omega) (by omega) (fun c17 => ?_) (fun c17 => by omega)
    refine zj_iload3 (n := 71) rfl dX10_lowestNodes_70 ?_
    exact zj_ireturn dX10_lowestNodes_71 rfl rfl h
