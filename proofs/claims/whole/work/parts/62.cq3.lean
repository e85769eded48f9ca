/-! THE CLASS'S QUESTIONS, still more -/
theorem jX9_lostBy {v : zV} {x : Int32} {Q : Option Value → zM → Prop} {X : String → zM → Prop} {M : zM} (hC : zCl M v) (hW : zWF v) (hx1 : (a_lostBy v x).1 = 1 → X "java/lang/IllegalArgumentException" M) (h : (a_lostBy v x).1 = 0 → ∀ M', zQn M M' → Q (some (.int (a_lostBy v x).2)) M') : zJ yX9_lostBy cX9_lostBy 2 (some .int) rX9_lostBy Q X rX9_lostBy.cells rX9_lostBy.slots 0 (zEnt 2 [.ref 99, .int x]) [] M := by
  have hR := hC.1
  have h6 := hW.nN
  have h7 := hW.tN
  have h8 := hW.gN
  have h9 := hW.hN
  show zJ yX9_lostBy cX9_lostBy 2 (some .int) rX9_lostBy Q X 1 6 0 [some (.ref 99), some (.int x)] [] M
  refine zj_iload1 (n := 1) rfl dX9_lostBy_0 ?_
  refine zj_aload0 (n := 2) rfl dX9_lostBy_1 ?_
  refine zj_getr (n := 5) (q := 0) rfl dX9_lostBy_2 zf_X9_33 rfl (by decide) (by decide) rfl ?_
  refine zj_callV0 (n := 8) (a' := 1) (b' := 6) rfl dX9_lostBy_5 zm_X9_261 (by decide) (by decide) rfl (Nat.le_of_ble_eq_true rfl) (Nat.le_of_ble_eq_true rfl) (Nat.le_of_ble_eq_true rfl) (Nat.le_of_ble_eq_true rfl) (jX6_allNodes hR hW ?_)
  refine zj_iconst_m1 (n := 9) rfl dX9_lostBy_8 ?_
  refine zj_ixor (n := 10) rfl dX9_lostBy_9 ?_
  refine zj_iand (n := 11) rfl dX9_lostBy_10 ?_
  refine zj_if_ne (n := 14) (tgt := 18) rfl dX9_lostBy_11 (by decide) (fun c11 => ?_) (fun c11 => ?_)
  · have c2 : zin x (2 ^ v 6) = false := by cases e : zin x (2 ^ v 6) with | false => rfl | true => exact absurd ((znod (by omega)).mpr e) c11
    refine zj_iconstN_0 (n := 19) rfl dX9_lostBy_18 ?_
    refine zj_callS1 (n := 22) (a' := 0) (b' := 0) rfl dX9_lostBy_19 zm_X9_72 (by decide) (Nat.le_of_ble_eq_true rfl) (Nat.le_of_ble_eq_true rfl) (Nat.le_of_ble_eq_true rfl) (Nat.le_of_ble_eq_true rfl) (jX9_needArgument (p := false) (fun q => by cases q) (fun _ => hx1 (by simp [a_lostBy, c2])))
  · have c2 := (znod (by omega)).mp c11
    obtain ⟨n, hn, rfl⟩ := (zin_iff (Nat.lt_of_le_of_lt (Nat.pow_le_pow_right (by decide) h6) (by decide))).mp c2
    have hn31 : n < 2 ^ 31 := Nat.lt_of_lt_of_le hn (Nat.le_trans (Nat.pow_le_pow_right (by decide) h6) (by decide))
    refine zj_iconstN_1 (n := 15) rfl dX9_lostBy_14 ?_
    refine zj_goto (tgt := 19) dX9_lostBy_15 (by decide) ?_
    refine zj_callS1 (n := 22) (a' := 0) (b' := 0) rfl dX9_lostBy_19 zm_X9_72 (by decide) (Nat.le_of_ble_eq_true rfl) (Nat.le_of_ble_eq_true rfl) (Nat.le_of_ble_eq_true rfl) (Nat.le_of_ble_eq_true rfl) (jX9_needArgument (p := true) (fun _ => ?_) (fun q => by cases q))
    refine zj_aload0 (n := 23) rfl dX9_lostBy_22 ?_
    refine zj_getr (n := 26) (q := 0) rfl dX9_lostBy_23 zf_X9_33 rfl (by decide) (by decide) rfl ?_
    refine zj_iload1 (n := 27) rfl dX9_lostBy_26 ?_
    refine zj_callV1 (n := 30) (a' := 0) (b' := 0) rfl dX9_lostBy_27 zm_X9_176 (by decide) (by decide) rfl (Nat.le_of_ble_eq_true rfl) (Nat.le_of_ble_eq_true rfl) (Nat.le_of_ble_eq_true rfl) (Nat.le_of_ble_eq_true rfl) (jX6_lostSet hR hW (Nat.lt_of_lt_of_le hn (Nat.pow_le_pow_right (by decide) h6)) ?_)
    refine zj_ireturn dX9_lostBy_30 rfl rfl ?_
    have h := h (by simp only [a_lostBy, c2, if_true, Bool.and_true, Bool.true_and]) _ (hC.rf)
    simp only [a_lostBy, c2, xn_at hn31, if_true, Bool.and_true, Bool.true_and] at h
    exact h
theorem jX9_history {v : zV} {x : Int32} {z : Int32} {Q : Option Value → zM → Prop} {X : String → zM → Prop} {M : zM} (hC : zCl M v) (hW : zWF v) (hx1 : (a_history v x z).1 = 1 → X "java/lang/IndexOutOfBoundsException" M) (hx2 : (a_history v x z).1 = 2 → X "java/lang/IllegalArgumentException" M) (h : (a_history v x z).1 = 0 → ∀ M', zQn M M' → Q (some (.int (a_history v x z).2)) M') : zJ yX9_history cX9_history 3 (some .int) rX9_history Q X rX9_history.cells rX9_history.slots 0 (zEnt 3 [.ref 99, .int x, .int z]) [] M := by
  have hR := hC.1
  have h6 := hW.nN
  have h7 := hW.tN
  have h8 := hW.gN
  have h9 := hW.hN
  show zJ yX9_history cX9_history 3 (some .int) rX9_history Q X 2 12 0 [some (.ref 99), some (.int x), some (.int z)] [] M
  refine zj_aload0 (n := 1) rfl dX9_history_0 ?_
  refine zj_getr (n := 4) (q := 0) rfl dX9_history_1 zf_X9_33 rfl (by decide) (by decide) rfl ?_
  refine zj_getr (n := 7) (q := 7) rfl dX9_history_4 zf_X9_302 rfl (by decide) (by decide) rfl ?_
  refine zj_iload1 (n := 8) rfl dX9_history_7 ?_
  refine zj_callV1 (n := 11) (a' := 2) (b' := 12) rfl dX9_history_8 zm_X9_305 (by decide) (by decide) rfl (Nat.le_of_ble_eq_true rfl) (Nat.le_of_ble_eq_true rfl) (Nat.le_of_ble_eq_true rfl) (Nat.le_of_ble_eq_true rfl) (jT_holds hR.p.1 ?_)
  refine zj_callS1 (n := 14) (a' := 1) (b' := 6) rfl dX9_history_11 zm_X9_308 (by decide) (Nat.le_of_ble_eq_true rfl) (Nat.le_of_ble_eq_true rfl) (Nat.le_of_ble_eq_true rfl) (Nat.le_of_ble_eq_true rfl) (jX9_needIndex (fun c2 => ?_) (fun c2 => hx1 (by simp [a_history, c2])))
  obtain ⟨n, hn, rfl⟩ := (zin_iff (by omega)).mp c2
  refine zj_iload2 (n := 15) rfl dX9_history_14 ?_
  refine zj_if_lt (n := 18) (tgt := 27) rfl dX9_history_15 (by decide) (fun c15 => ?_) (fun c15 => ?_)
  · refine zj_iconstN_0 (n := 28) rfl dX9_history_27 ?_
    refine zj_callS1 (n := 31) (a' := 0) (b' := 0) rfl dX9_history_28 zm_X9_72 (by decide) (Nat.le_of_ble_eq_true rfl) (Nat.le_of_ble_eq_true rfl) (Nat.le_of_ble_eq_true rfl) (Nat.le_of_ble_eq_true rfl) (jX9_needArgument (p := false) (fun q => by cases q) (fun _ => hx2 (by simp [a_history, c2, zin_f1 c15])))
  · refine zj_iload2 (n := 19) rfl dX9_history_18 ?_
    refine zj_iconstN_4 (n := 20) rfl dX9_history_19 ?_
    refine zj_icmp_gt (n := 23) (tgt := 27) rfl dX9_history_20 (by decide) (fun c20 => ?_) (fun c20 => ?_)
    · refine zj_iconstN_0 (n := 28) rfl dX9_history_27 ?_
      refine zj_callS1 (n := 31) (a' := 0) (b' := 0) rfl dX9_history_28 zm_X9_72 (by decide) (Nat.le_of_ble_eq_true rfl) (Nat.le_of_ble_eq_true rfl) (Nat.le_of_ble_eq_true rfl) (Nat.le_of_ble_eq_true rfl) (jX9_needArgument (p := false) (fun q => by cases q) (fun _ => hx2 (by simp [a_history, c2, zin_fg (k := 4) (by decide) c20])))
    · refine zj_iconstN_1 (n := 24) rfl dX9_history_23 ?_
      refine zj_goto (tgt := 28) dX9_history_24 (by decide) ?_
      refine zj_callS1 (n := 31) (a' := 0) (b' := 0) rfl dX9_history_28 zm_X9_72 (by decide) (Nat.le_of_ble_eq_true rfl) (Nat.le_of_ble_eq_true rfl) (Nat.le_of_ble_eq_true rfl) (Nat.le_of_ble_eq_true rfl) (jX9_needArgument (p := true) (fun _ => ?_) (fun q => by cases q))
      have d2 : zin z 5 = true := zin_g (k := 4) (by decide) c15 c20
      obtain ⟨k, hk, rfl⟩ := (zin_iff (by decide)).mp d2
      refine zj_aload0 (n := 32) rfl dX9_history_31 ?_
      refine zj_getr (n := 35) (q := 0) rfl dX9_history_32 zf_X9_33 rfl (by decide) (by decide) rfl ?_
      refine zj_getr (n := 38) (q := 7) rfl dX9_history_35 zf_X9_302 rfl (by decide) (by decide) rfl ?_
      refine zj_iload1 (n := 39) rfl dX9_history_38 ?_
      refine zj_iload2 (n := 40) rfl dX9_history_39 ?_
      refine zj_callV2 (n := 43) (a' := 0) (b' := 0) rfl dX9_history_40 zm_X9_126 (by decide) (by decide) rfl (Nat.le_of_ble_eq_true rfl) (Nat.le_of_ble_eq_true rfl) (Nat.le_of_ble_eq_true rfl) (Nat.le_of_ble_eq_true rfl) (jT_get hR.p.1 hn (by omega) (hR.p.c hn hk) ?_)
      refine zj_ireturn dX9_history_43 rfl rfl ?_
      have h := h (by simp only [a_history, c2, d2, if_true, Bool.and_true, Bool.true_and]) _ (hC.rf)
      simp only [a_history, c2, d2, xn_at (show n < 2 ^ 31 by omega), xn_at (show k < 2 ^ 31 by omega), if_true, Bool.and_true, Bool.true_and] at h
      exact h
theorem jX9_longestRise {v : zV} {Q : Option Value → zM → Prop} {X : String → zM → Prop} {M : zM} (hC : zCl M v) (hW : zWF v) (h : (a_longest v).1 = 0 → ∀ M', zQn M M' → Q (some (.int (a_longest v).2)) M') : zJ yX9_longestRise cX9_longestRise 5 (some .int) rX9_longestRise Q X rX9_longestRise.cells rX9_longestRise.slots 0 (zEnt 5 [.ref 99]) [] M := by
  have hR := hC.1
  have h6 := hW.nN
  have h7 := hW.tN
  have h8 := hW.gN
  have h9 := hW.hN
  show zJ yX9_longestRise cX9_longestRise 5 (some .int) rX9_longestRise Q X 0 0 0 [some (.ref 99), none, none, none, none] [] M
  refine zj_iconstN_0 (n := 1) rfl dX9_longestRise_0 ?_
  refine zj_istore1 (n := 2) rfl dX9_longestRise_1 rfl (Nat.le_of_ble_eq_true rfl) ?_
  refine zj_iconstN_0 (n := 3) rfl dX9_longestRise_2 ?_
  refine zj_istore2 (n := 4) rfl dX9_longestRise_3 rfl (Nat.le_of_ble_eq_true rfl) ?_
  refine zj_iconstN_0 (n := 5) rfl dX9_longestRise_4 ?_
  refine zj_istore3 (n := 6) rfl dX9_longestRise_5 rfl (Nat.le_of_ble_eq_true rfl) ?_
  refine zFor_rule (P := fun k (_ : Unit) => zJ yX9_longestRise cX9_longestRise 5 (some .int) rX9_longestRise Q X 0 0 6 [some (.ref 99), some (.int (nI ((vrise v k).1))), some (.int (nI ((vrise v k).2))), some (.int (nI k)), none] [] M) (n := v 9) (f := fun _ s => s) (s0 := ()) ?_ ?_
  · intro k _ hk9 hk
    obtain ⟨r1, r2⟩ := vrise_le (v := v) k
    refine zj_iload3 (n := 7) rfl dX9_longestRise_6 ?_
    refine zj_aload0 (n := 8) rfl dX9_longestRise_7 ?_
    refine zj_getr (n := 11) (q := 0) rfl dX9_longestRise_8 zf_X9_33 rfl (by decide) (by decide) rfl ?_
    refine zj_getr (n := 14) (q := 7) rfl dX9_longestRise_11 zf_X9_302 rfl (by decide) (by decide) rfl ?_
    refine zj_getiN (e := v 9) (n := 17) rfl dX9_longestRise_14 zf_X9_95 rfl (by decide) (by decide) hR.p.1.2.2.2.1 ?_
    refine zj_icmpN_ge (n := 20) (tgt := 85) rfl dX9_longestRise_17 (by decide) (by omega) (by omega) (fun c17 => by omega) (fun c17 => ?_)
    refine zj_iload3 (n := 21) rfl dX9_longestRise_20 ?_
    refine zj_ifN_le (n := 24) (tgt := 57) rfl dX9_longestRise_21 (by decide) (by omega) (fun c21 => ?_) (fun c21 => ?_)
    · refine zj_iconstN_0 (n := 58) rfl dX9_longestRise_57 ?_
      refine zj_istore4 (n := 60) rfl dX9_longestRise_58 rfl (Nat.le_of_ble_eq_true rfl) ?_
      refine zj_iload4 (n := 62) rfl dX9_longestRise_60 ?_
      refine zj_ifN_eq (n := 65) (tgt := 71) rfl dX9_longestRise_62 (by decide) (by omega) (fun _ => ?_) (fun h => absurd h (by decide))
      refine zj_iconstN_1 (n := 72) rfl dX9_longestRise_71 ?_
      refine zj_istore2 (n := 73) rfl dX9_longestRise_72 rfl (Nat.le_of_ble_eq_true rfl) ?_
      refine zj_iload1 (n := 74) rfl dX9_longestRise_73 ?_
      refine zj_iload2 (n := 75) rfl dX9_longestRise_74 ?_
      refine zj_imaxN (n := 78) rfl dX9_longestRise_75 zm_X9_316 (by decide) (Nat.le_of_ble_eq_true rfl) (by omega) (by omega) ?_
      refine zj_istore1 (n := 79) rfl dX9_longestRise_78 rfl (Nat.le_of_ble_eq_true rfl) ?_
      refine zj_iincN3 (n := 82) rfl dX9_longestRise_79 rfl (Nat.le_of_ble_eq_true rfl) ?_
      refine zj_goto (tgt := 6) dX9_longestRise_82 (by decide) ?_
      refine zj_keep [true, true, true, true, false] ?_
      have e : vriseS v k (vrise v k) = 1 := by unfold vriseS; rw [if_neg (by omega)]
      rw [vrise_succ, e] at hk
      exact hk
    · refine zj_aload0 (n := 25) rfl dX9_longestRise_24 ?_
      refine zj_getr (n := 28) (q := 0) rfl dX9_longestRise_25 zf_X9_33 rfl (by decide) (by decide) rfl ?_
      refine zj_getr (n := 31) (q := 7) rfl dX9_longestRise_28 zf_X9_302 rfl (by decide) (by decide) rfl ?_
      refine zj_iload3 (n := 32) rfl dX9_longestRise_31 ?_
      refine zj_iconstN_2 (n := 33) rfl dX9_longestRise_32 ?_
      refine zj_callV2 (n := 36) (a' := 0) (b' := 0) rfl dX9_longestRise_33 zm_X9_126 (by decide) (by decide) rfl (Nat.le_of_ble_eq_true rfl) (Nat.le_of_ble_eq_true rfl) (Nat.le_of_ble_eq_true rfl) (Nat.le_of_ble_eq_true rfl) (jT_get hR.p.1 (by omega) (by decide) (hR.p.c (by omega) (by decide)) ?_)
      refine zj_aload0 (n := 37) rfl dX9_longestRise_36 ?_
      refine zj_getr (n := 40) (q := 0) rfl dX9_longestRise_37 zf_X9_33 rfl (by decide) (by decide) rfl ?_
      refine zj_getr (n := 43) (q := 7) rfl dX9_longestRise_40 zf_X9_302 rfl (by decide) (by decide) rfl ?_
      refine zj_iload3 (n := 44) rfl dX9_longestRise_43 ?_
      refine zj_iconstN_1 (n := 45) rfl dX9_longestRise_44 ?_
      refine zj_isubN (n := 46) rfl dX9_longestRise_45 (by omega) ?_
      refine zj_iconstN_2 (n := 47) rfl dX9_longestRise_46 ?_
      refine zj_callV2 (n := 50) (a' := 0) (b' := 0) rfl dX9_longestRise_47 zm_X9_126 (by decide) (by decide) rfl (Nat.le_of_ble_eq_true rfl) (Nat.le_of_ble_eq_true rfl) (Nat.le_of_ble_eq_true rfl) (Nat.le_of_ble_eq_true rfl) (jT_get hR.p.1 (by omega) (by decide) (hR.p.c (by omega) (by decide)) ?_)
      refine zj_icmpN_le (n := 53) (tgt := 57) rfl dX9_longestRise_50 (by decide) (by have h1 := hW.hist (k := k) (by omega); have h1 : v (498 + 5 * k + 2) ≤ 9999 := h1; have h2 := hW.hist (k := k - 1) (by omega); have h2 : v (498 + 5 * (k - 1) + 2) ≤ 9999 := h2; omega) (by have h1 := hW.hist (k := k) (by omega); have h1 : v (498 + 5 * k + 2) ≤ 9999 := h1; have h2 := hW.hist (k := k - 1) (by omega); have h2 : v (498 + 5 * (k - 1) + 2) ≤ 9999 := h2; omega) (fun c50 => ?_) (fun c50 => ?_)
      · refine zj_iconstN_0 (n := 58) rfl dX9_longestRise_57 ?_
        refine zj_istore4 (n := 60) rfl dX9_longestRise_58 rfl (Nat.le_of_ble_eq_true rfl) ?_
        refine zj_iload4 (n := 62) rfl dX9_longestRise_60 ?_
        refine zj_ifN_eq (n := 65) (tgt := 71) rfl dX9_longestRise_62 (by decide) (by omega) (fun _ => ?_) (fun h => absurd h (by decide))
        refine zj_iconstN_1 (n := 72) rfl dX9_longestRise_71 ?_
        refine zj_istore2 (n := 73) rfl dX9_longestRise_72 rfl (Nat.le_of_ble_eq_true rfl) ?_
        refine zj_iload1 (n := 74) rfl dX9_longestRise_73 ?_
        refine zj_iload2 (n := 75) rfl dX9_longestRise_74 ?_
        refine zj_imaxN (n := 78) rfl dX9_longestRise_75 zm_X9_316 (by decide) (Nat.le_of_ble_eq_true rfl) (by omega) (by omega) ?_
        refine zj_istore1 (n := 79) rfl dX9_longestRise_78 rfl (Nat.le_of_ble_eq_true rfl) ?_
        refine zj_iincN3 (n := 82) rfl dX9_longestRise_79 rfl (Nat.le_of_ble_eq_true rfl) ?_
        refine zj_goto (tgt := 6) dX9_longestRise_82 (by decide) ?_
        refine zj_keep [true, true, true, true, false] ?_
        have e : vriseS v k (vrise v k) = 1 := by unfold vriseS; rw [if_neg (by omega)]
        rw [vrise_succ, e] at hk
        exact hk
      · refine zj_iconstN_1 (n := 54) rfl dX9_longestRise_53 ?_
        refine zj_goto (tgt := 58) dX9_longestRise_54 (by decide) ?_
        refine zj_istore4 (n := 60) rfl dX9_longestRise_58 rfl (Nat.le_of_ble_eq_true rfl) ?_
        refine zj_iload4 (n := 62) rfl dX9_longestRise_60 ?_
        refine zj_ifN_eq (n := 65) (tgt := 71) rfl dX9_longestRise_62 (by decide) (by omega) (fun h => absurd h (by decide)) (fun _ => ?_)
        refine zj_iload2 (n := 66) rfl dX9_longestRise_65 ?_
        refine zj_iconstN_1 (n := 67) rfl dX9_longestRise_66 ?_
        refine zj_iaddN (n := 68) rfl dX9_longestRise_67 ?_
        refine zj_goto (tgt := 72) dX9_longestRise_68 (by decide) ?_
        refine zj_istore2 (n := 73) rfl dX9_longestRise_72 rfl (Nat.le_of_ble_eq_true rfl) ?_
        refine zj_iload1 (n := 74) rfl dX9_longestRise_73 ?_
        refine zj_iload2 (n := 75) rfl dX9_longestRise_74 ?_
        refine zj_imaxN (n := 78) rfl dX9_longestRise_75 zm_X9_316 (by decide) (Nat.le_of_ble_eq_true rfl) (by omega) (by omega) ?_
        refine zj_istore1 (n := 79) rfl dX9_longestRise_78 rfl (Nat.le_of_ble_eq_true rfl) ?_
        refine zj_iincN3 (n := 82) rfl dX9_longestRise_79 rfl (Nat.le_of_ble_eq_true rfl) ?_
        refine zj_goto (tgt := 6) dX9_longestRise_82 (by decide) ?_
        refine zj_keep [true, true, true, true, false] ?_
        have e : vriseS v k (vrise v k) = (vrise v k).2 + 1 := by unfold vriseS; rw [if_pos ⟨c21, c50⟩]
        rw [vrise_succ, e] at hk
        exact hk
  · skip
    refine zj_iload3 (n := 7) rfl dX9_longestRise_6 ?_
    refine zj_aload0 (n := 8) rfl dX9_longestRise_7 ?_
    refine zj_getr (n := 11) (q := 0) rfl dX9_longestRise_8 zf_X9_33 rfl (by decide) (by decide) rfl ?_
    refine zj_getr (n := 14) (q := 7) rfl dX9_longestRise_11 zf_X9_302 rfl (by decide) (by decide) rfl ?_
    refine zj_getiN (e := v 9) (n := 17) rfl dX9_longestRise_14 zf_X9_95 rfl (by decide) (by decide) hR.p.1.2.2.2.1 ?_
    refine zj_icmpN_ge (n := 20) (tgt := 85) rfl dX9_longestRise_17 (by decide) (by omega) (by omega) (fun c17 => ?_) (fun c17 => by omega)
    refine zj_iload1 (n := 86) rfl dX9_longestRise_85 ?_
    exact zj_ireturn dX9_longestRise_86 rfl rfl (h rfl _ hC.rf)
theorem jX9_valueAtRisk {v : zV}  {g d : Nat} {Q : Option Value → zM → Prop} {X : String → zM → Prop} {M : zM} (hC : zCl M v) (hW : zWF v) (hg : g < v 8) (hd2 : d < 2 ^ 16) (h : ∀ L, (∀ c, c ≠ 107 → L c = M.2.1 c) → Q (some (.long (lN (v (268 + 23 * g + 5) * vloss v d g)))) (M.1, L, M.2.2)) : zJ yX9_valueAtRisk cX9_valueAtRisk 3 (some .long) rX9_valueAtRisk Q X rX9_valueAtRisk.cells rX9_valueAtRisk.slots 0 (zEnt 3 [.ref 99, .int (nI g), .int (nI d)]) [] M := by
  have hR := hC.1
  have h6 := hW.nN
  have h7 := hW.tN
  have h8 := hW.gN
  have h9 := hW.hN
  have hg5 : v (268 + 23 * g + 5) ≤ 9999 := (hW.grp hg).2.2.2.2.2.2.2.2.2.1
  have hvl := vloss_le (v := v) (d := d) (hW.risk hg)
  show zJ yX9_valueAtRisk cX9_valueAtRisk 3 (some .long) rX9_valueAtRisk Q X 0 0 0 [some (.ref 99), some (.int (nI g)), some (.int (nI d))] [] M
  refine zj_aload0 (n := 1) rfl dX9_valueAtRisk_0 ?_
  refine zj_getr (n := 4) (q := 0) rfl dX9_valueAtRisk_1 zf_X9_33 rfl (by decide) (by decide) rfl ?_
  refine zj_getr (n := 7) (q := 5) rfl dX9_valueAtRisk_4 zf_X9_91 rfl (by decide) (by decide) rfl ?_
  refine zj_iload1 (n := 8) rfl dX9_valueAtRisk_7 ?_
  refine zj_iconstN_5 (n := 9) rfl dX9_valueAtRisk_8 ?_
  refine zj_callV2 (n := 12) (a' := 0) (b' := 0) rfl dX9_valueAtRisk_9 zm_X9_126 (by decide) (by decide) rfl (Nat.le_of_ble_eq_true rfl) (Nat.le_of_ble_eq_true rfl) (Nat.le_of_ble_eq_true rfl) (Nat.le_of_ble_eq_true rfl) (jT_get hR.g.1 (by omega) (by decide) (hR.g.c (by omega) (by decide)) ?_)
  refine zj_i2lN (n := 13) rfl dX9_valueAtRisk_12 (by omega) ?_
  refine zj_aload0 (n := 14) rfl dX9_valueAtRisk_13 ?_
  refine zj_getr (n := 17) (q := 105) rfl dX9_valueAtRisk_14 zf_X9_40 rfl (by decide) (by decide) rfl ?_
  refine zj_getr (n := 20) (q := 106) rfl dX9_valueAtRisk_17 zf_X9_179 rfl (by decide) (by decide) rfl ?_
  refine zj_aload0 (n := 21) rfl dX9_valueAtRisk_20 ?_
  refine zj_getr (n := 24) (q := 0) rfl dX9_valueAtRisk_21 zf_X9_33 rfl (by decide) (by decide) rfl ?_
  refine zj_iload1 (n := 25) rfl dX9_valueAtRisk_24 ?_
  refine zj_iload2 (n := 26) rfl dX9_valueAtRisk_25 ?_
  refine zj_callV3 (n := 29) (a' := 0) (b' := 0) rfl dX9_valueAtRisk_26 zm_X9_183 (by decide) (by decide) rfl (Nat.le_of_ble_eq_true rfl) (Nat.le_of_ble_eq_true rfl) (Nat.le_of_ble_eq_true rfl) (Nat.le_of_ble_eq_true rfl) (jX4_lossOf (Or.inl rfl) hR hW hg hd2 ?_)
  intro L hL
  refine zj_i2lN (n := 30) rfl dX9_valueAtRisk_29 (by omega) ?_
  refine zj_lmulN (n := 31) rfl dX9_valueAtRisk_30 ?_
  exact zj_lreturn dX9_valueAtRisk_31 rfl (h L hL)
theorem jX9_allValueAtRisk {v : zV}  {d : Nat} {Q : Option Value → zM → Prop} {X : String → zM → Prop} {M : zM} (hC : zCl M v) (hW : zWF v) (hd2 : d < 2 ^ 16) (h : ∀ L, (∀ c, c ≠ 107 → L c = M.2.1 c) → Q (some (.long (lN (vlsum v d (v 8))))) (M.1, L, M.2.2)) : zJ yX9_allValueAtRisk cX9_allValueAtRisk 5 (some .long) rX9_allValueAtRisk Q X rX9_allValueAtRisk.cells rX9_allValueAtRisk.slots 0 (zEnt 5 [.ref 99, .int (nI d)]) [] M := by
  have hR := hC.1
  have h6 := hW.nN
  have h7 := hW.tN
  have h8 := hW.gN
  have h9 := hW.hN
  show zJ yX9_allValueAtRisk cX9_allValueAtRisk 5 (some .long) rX9_allValueAtRisk Q X 0 0 0 [some (.ref 99), some (.int (nI d)), none, none, none] [] M
  refine zj_lconstN_0 (n := 1) rfl dX9_allValueAtRisk_0 ?_
  refine zj_lstore2 (n := 2) rfl dX9_allValueAtRisk_1 rfl (Nat.le_of_ble_eq_true rfl) ?_
  refine zj_iconstN_0 (n := 3) rfl dX9_allValueAtRisk_2 ?_
  refine zj_istore4 (n := 5) rfl dX9_allValueAtRisk_3 rfl (Nat.le_of_ble_eq_true rfl) ?_
  refine zFor_rule (P := fun g (_ : Unit) => ∀ L, (∀ c, c ≠ 107 → L c = M.2.1 c) → zJ yX9_allValueAtRisk cX9_allValueAtRisk 5 (some .long) rX9_allValueAtRisk Q X 0 0 5 [some (.ref 99), some (.int (nI d)), some (.long (lN (vlsum v d g))), none, some (.int (nI g))] [] (M.1, L, M.2.2)) (n := v 8) (f := fun _ s => s) (s0 := ()) ?_ ?_ M.2.1 (fun _ _ => rfl)
  · intro g _ hg hk L hL
    refine zj_iload4 (n := 7) rfl dX9_allValueAtRisk_5 ?_
    refine zj_aload0 (n := 8) rfl dX9_allValueAtRisk_7 ?_
    refine zj_getr (n := 11) (q := 0) rfl dX9_allValueAtRisk_8 zf_X9_33 rfl (by decide) (by decide) rfl ?_
    refine zj_getr (n := 14) (q := 5) rfl dX9_allValueAtRisk_11 zf_X9_91 rfl (by decide) (by decide) rfl ?_
    refine zj_getiN (e := v 8) (n := 17) rfl dX9_allValueAtRisk_14 zf_X9_95 rfl (by decide) (by decide) (show zRg (M.1, L, M.2.2) 0 v from hC.1.cg (fun _ _ _ => rfl)).g.1.2.2.2.1 ?_
    refine zj_icmpN_ge (n := 20) (tgt := 36) rfl dX9_allValueAtRisk_17 (by decide) (by omega) (by omega) (fun c17 => by omega) (fun c17 => ?_)
    refine zj_lload2 (n := 21) rfl dX9_allValueAtRisk_20 ?_
    refine zj_aload0 (n := 22) rfl dX9_allValueAtRisk_21 ?_
    refine zj_iload4 (n := 24) rfl dX9_allValueAtRisk_22 ?_
    refine zj_iload1 (n := 25) rfl dX9_allValueAtRisk_24 ?_
    refine zj_callV2 (n := 28) (a' := 0) (b' := 0) rfl dX9_allValueAtRisk_25 zm_X9_189 (by decide) (by decide) rfl (Nat.le_of_ble_eq_true rfl) (Nat.le_of_ble_eq_true rfl) (Nat.le_of_ble_eq_true rfl) (Nat.le_of_ble_eq_true rfl) (jX9_valueAtRisk ((hC.ofL hL).cl hC) hW hg hd2 ?_)
    intro L2 hL2
    refine zj_laddN (n := 29) rfl dX9_allValueAtRisk_28 ?_
    refine zj_lstore2 (n := 30) rfl dX9_allValueAtRisk_29 rfl (Nat.le_of_ble_eq_true rfl) ?_
    refine zj_iincN4 (n := 33) rfl dX9_allValueAtRisk_30 rfl (Nat.le_of_ble_eq_true rfl) ?_
    refine zj_goto (tgt := 5) dX9_allValueAtRisk_33 (by decide) ?_
    exact hk L2 (fun c hc => (hL2 c hc).trans (hL c hc))
  · intro L hL
    refine zj_iload4 (n := 7) rfl dX9_allValueAtRisk_5 ?_
    refine zj_aload0 (n := 8) rfl dX9_allValueAtRisk_7 ?_
    refine zj_getr (n := 11) (q := 0) rfl dX9_allValueAtRisk_8 zf_X9_33 rfl (by decide) (by decide) rfl ?_
    refine zj_getr (n := 14) (q := 5) rfl dX9_allValueAtRisk_11 zf_X9_91 rfl (by decide) (by decide) rfl ?_
    refine zj_getiN (e := v 8) (n := 17) rfl dX9_allValueAtRisk_14 zf_X9_95 rfl (by decide) (by decide) (show zRg (M.1, L, M.2.2) 0 v from hC.1.cg (fun _ _ _ => rfl)).g.1.2.2.2.1 ?_
    refine zj_icmpN_ge (n := 20) (tgt := 36) rfl dX9_allValueAtRisk_17 (by decide) (by omega) (by omega) (fun c17 => ?_) (fun c17 => by omega)
    refine zj_lload2 (n := 37) rfl dX9_allValueAtRisk_36 ?_
    exact zj_lreturn dX9_allValueAtRisk_37 rfl (h L hL)
theorem jX9_worstNode {v : zV} {Q : Option Value → zM → Prop} {X : String → zM → Prop} {M : zM} (hC : zCl M v) (hW : zWF v) (h : (a_worst v).1 = 0 → ∀ M', zQn M M' → Q (some (.int (a_worst v).2)) M') : zJ yX9_worstNode cX9_worstNode 7 (some .int) rX9_worstNode Q X rX9_worstNode.cells rX9_worstNode.slots 0 (zEnt 7 [.ref 99]) [] M := by
  have hR := hC.1
  have h6 := hW.nN
  have h7 := hW.tN
  have h8 := hW.gN
  have h9 := hW.hN
  show zJ yX9_worstNode cX9_worstNode 7 (some .int) rX9_worstNode Q X 0 0 0 [some (.ref 99), none, none, none, none, none, none] [] M
  refine zj_iconst_m1 (n := 1) rfl dX9_worstNode_0 ?_
  refine zj_istore1 (n := 2) rfl dX9_worstNode_1 rfl (Nat.le_of_ble_eq_true rfl) ?_
  refine zj_lconstN_0 (n := 3) rfl dX9_worstNode_2 ?_
  refine zj_lstore2 (n := 4) rfl dX9_worstNode_3 rfl (Nat.le_of_ble_eq_true rfl) ?_
  refine zj_iconstN_0 (n := 5) rfl dX9_worstNode_4 ?_
  refine zj_istore4 (n := 7) rfl dX9_worstNode_5 rfl (Nat.le_of_ble_eq_true rfl) ?_
  refine zj_sub (l' := [some (.ref 99), some (.int (zo (vws v 0).1)), some (.long (lN (vws v 0).2)), none, some (.int (nI 0)), none, none]) (by simp only [zLe, eq_self, and_true, true_and, Value.int.injEq, Value.long.injEq]; exact ⟨rfl, rfl⟩) ?_
  refine zFor_rule (P := fun n (_ : Unit) => ∀ L, (∀ c, c ≠ 107 → L c = M.2.1 c) → zJ yX9_worstNode cX9_worstNode 7 (some .int) rX9_worstNode Q X 0 0 7 [some (.ref 99), some (.int (zo ((vws v n).1))), some (.long (lN ((vws v n).2))), none, some (.int (nI n)), none, none] [] (M.1, L, M.2.2)) (n := v 6) (f := fun _ s => s) (s0 := ()) ?_ ?_ M.2.1 (fun _ _ => rfl)
  · intro n _ hn hk L hL
    have hn4 : v (10 + 12 * n + 4) ≤ 2 := (hW.node hn).2.2.2.2
    refine zj_iload4 (n := 9) rfl dX9_worstNode_7 ?_
    refine zj_aload0 (n := 10) rfl dX9_worstNode_9 ?_
    refine zj_getr (n := 13) (q := 0) rfl dX9_worstNode_10 zf_X9_33 rfl (by decide) (by decide) rfl ?_
    refine zj_getr (n := 16) (q := 1) rfl dX9_worstNode_13 zf_X9_123 rfl (by decide) (by decide) rfl ?_
    refine zj_getiN (e := v 6) (n := 19) rfl dX9_worstNode_16 zf_X9_95 rfl (by decide) (by decide) (show zRg (M.1, L, M.2.2) 0 v from hC.1.cg (fun _ _ _ => rfl)).n.1.2.2.2.1 ?_
    refine zj_icmpN_ge (n := 22) (tgt := 73) rfl dX9_worstNode_19 (by decide) (by omega) (by omega) (fun c19 => by omega) (fun c19 => ?_)
    refine zj_aload0 (n := 23) rfl dX9_worstNode_22 ?_
    refine zj_getr (n := 26) (q := 0) rfl dX9_worstNode_23 zf_X9_33 rfl (by decide) (by decide) rfl ?_
    refine zj_getr (n := 29) (q := 1) rfl dX9_worstNode_26 zf_X9_123 rfl (by decide) (by decide) rfl ?_
    refine zj_iload4 (n := 31) rfl dX9_worstNode_29 ?_
    refine zj_iconstN_5 (n := 32) rfl dX9_worstNode_31 ?_
    refine zj_callV2 (n := 35) (a' := 0) (b' := 0) rfl dX9_worstNode_32 zm_X9_126 (by decide) (by decide) rfl (Nat.le_of_ble_eq_true rfl) (Nat.le_of_ble_eq_true rfl) (Nat.le_of_ble_eq_true rfl) (Nat.le_of_ble_eq_true rfl) (jT_get (show zRg (M.1, L, M.2.2) 0 v from hC.1.cg (fun _ _ _ => rfl)).n.1 (by omega) (by decide) ((show zRg (M.1, L, M.2.2) 0 v from hC.1.cg (fun _ _ _ => rfl)).n.c5 (by omega)) ?_)
    refine zj_iconstN_1 (n := 36) rfl dX9_worstNode_35 ?_
    refine zj_icmpN_eq (n := 39) (tgt := 67) rfl dX9_worstNode_36 (by decide) (by omega) (by omega) (fun c36 => ?_) (fun c36 => ?_)
    · refine zj_iincN4 (n := 70) rfl dX9_worstNode_67 rfl (Nat.le_of_ble_eq_true rfl) ?_
      refine zj_goto (tgt := 7) dX9_worstNode_70 (by decide) ?_
      rw [vws_succ] at hk
      rw [show vwsS v n (vws v n) = vws v n by unfold vwsS; rw [if_pos c36]] at hk
      exact hk L hL
    · refine zj_aload0 (n := 40) rfl dX9_worstNode_39 ?_
      refine zj_iconstN_1 (n := 41) rfl dX9_worstNode_40 ?_
      refine zj_iload4 (n := 43) rfl dX9_worstNode_41 ?_
      refine zj_ishlN1 (n := 44) rfl dX9_worstNode_43 (by omega) ?_
      refine zj_callV1 (n := 47) (a' := 0) (b' := 0) rfl dX9_worstNode_44 zm_X9_195 (by decide) (by decide) rfl (Nat.le_of_ble_eq_true rfl) (Nat.le_of_ble_eq_true rfl) (Nat.le_of_ble_eq_true rfl) (Nat.le_of_ble_eq_true rfl) (jX9_allValueAtRisk ((hC.ofL hL).cl hC) hW (Nat.pow_lt_pow_right (by decide) (by omega)) ?_)
      intro L2 hL2
      refine zj_lstore5 (n := 49) rfl dX9_worstNode_47 rfl (Nat.le_of_ble_eq_true rfl) ?_
      refine zj_iload1 (n := 50) rfl dX9_worstNode_49 ?_
      refine zj_iconst_m1 (n := 51) rfl dX9_worstNode_50 ?_
      refine zj_icmpO_eq (n := 54) (tgt := 61) rfl dX9_worstNode_51 (by decide) (fun m hm => by have := (vws_lt hW n).1 m hm; omega) (fun c51 => ?_) (fun m51 c51 => ?_)
      · refine zj_iload4 (n := 63) rfl dX9_worstNode_61 ?_
        refine zj_istore1 (n := 64) rfl dX9_worstNode_63 rfl (Nat.le_of_ble_eq_true rfl) ?_
        refine zj_lload5 (n := 66) rfl dX9_worstNode_64 ?_
        refine zj_lstore2 (n := 67) rfl dX9_worstNode_66 rfl (Nat.le_of_ble_eq_true rfl) ?_
        refine zj_iincN4 (n := 70) rfl dX9_worstNode_67 rfl (Nat.le_of_ble_eq_true rfl) ?_
        refine zj_goto (tgt := 7) dX9_worstNode_70 (by decide) ?_
        refine zj_keep [true, true, true, false, true, false, false] ?_
        rw [vws_succ] at hk
        rw [show vwsS v n (vws v n) = (some n, vlsum v (2 ^ n) (v 8)) by unfold vwsS; rw [if_neg c36, c51]; rfl] at hk
        exact hk L2 (fun c hc => (hL2 c hc).trans (hL c hc))
      · refine zj_lload5 (n := 56) rfl dX9_worstNode_54 ?_
        refine zj_lload2 (n := 57) rfl dX9_worstNode_56 ?_
        refine zj_lcmp (n := 58) rfl dX9_worstNode_57 ?_
        refine zj_ifC_le (n := 61) (tgt := 67) rfl dX9_worstNode_58 (by decide) (by first | (have := (vws_lt hW n).2; omega) | (have h1 := vlsum_le hW (2 ^ n) (v 8) (Nat.le_refl _); have h2 : v 8 * (9999 * 1000000000) ≤ 10 * (9999 * 1000000000) := Nat.mul_le_mul_right _ h8; omega)) (by first | (have := (vws_lt hW n).2; omega) | (have h1 := vlsum_le hW (2 ^ n) (v 8) (Nat.le_refl _); have h2 : v 8 * (9999 * 1000000000) ≤ 10 * (9999 * 1000000000) := Nat.mul_le_mul_right _ h8; omega)) (fun c58 => ?_) (fun c58 => ?_)
        · refine zj_iincN4 (n := 70) rfl dX9_worstNode_67 rfl (Nat.le_of_ble_eq_true rfl) ?_
          refine zj_goto (tgt := 7) dX9_worstNode_70 (by decide) ?_
          refine zj_keep [true, true, true, false, true, false, false] ?_
          rw [vws_succ] at hk
          rw [show vwsS v n (vws v n) = vws v n by unfold vwsS; rw [if_neg c36, c51, decide_eq_false (Nat.not_lt.mpr c58)]; rfl] at hk
          exact hk L2 (fun c hc => (hL2 c hc).trans (hL c hc))
        · refine zj_iload4 (n := 63) rfl dX9_worstNode_61 ?_
          refine zj_istore1 (n := 64) rfl dX9_worstNode_63 rfl (Nat.le_of_ble_eq_true rfl) ?_
          refine zj_lload5 (n := 66) rfl dX9_worstNode_64 ?_
          refine zj_lstore2 (n := 67) rfl dX9_worstNode_66 rfl (Nat.le_of_ble_eq_true rfl) ?_
          refine zj_iincN4 (n := 70) rfl dX9_worstNode_67 rfl (Nat.le_of_ble_eq_true rfl) ?_
          refine zj_goto (tgt := 7) dX9_worstNode_70 (by decide) ?_
          refine zj_keep [true, true, true, false, true, false, false] ?_
          rw [vws_succ] at hk
          rw [show vwsS v n (vws v n) = (some n, vlsum v (2 ^ n) (v 8)) by unfold vwsS; rw [if_neg c36, c51, decide_eq_true c58, Bool.or_true]; rfl] at hk
          exact hk L2 (fun c hc => (hL2 c hc).trans (hL c hc))
  · intro L hL
    refine zj_iload4 (n := 9) rfl dX9_worstNode_7 ?_
    refine zj_aload0 (n := 10) rfl dX9_worstNode_9 ?_
    refine zj_getr (n := 13) (q := 0) rfl dX9_worstNode_10 zf_X9_33 rfl (by decide) (by decide) rfl ?_
    refine zj_getr (n := 16) (q := 1) rfl dX9_worstNode_13 zf_X9_123 rfl (by decide) (by decide) rfl ?_
    refine zj_getiN (e := v 6) (n := 19) rfl dX9_worstNode_16 zf_X9_95 rfl (by decide) (by decide) (show zRg (M.1, L, M.2.2) 0 v from hC.1.cg (fun _ _ _ => rfl)).n.1.2.2.2.1 ?_
    refine zj_icmpN_ge (n := 22) (tgt := 73) rfl dX9_worstNode_19 (by decide) (by omega) (by omega) (fun c19 => ?_) (fun c19 => by omega)
    refine zj_iload1 (n := 74) rfl dX9_worstNode_73 ?_
    exact zj_ireturn dX9_worstNode_74 rfl rfl (h rfl _ (hC.ofL hL))
theorem hP_rep {v : zV} (hW : zWF v) {n : Nat} (hn : n < v 8) (k : Nat) : zMask (vrs v k 8) (fun g => vdam (vrs v k) 0 g) &&& 2 ^ n = 0 ↔ vdam (vrs v k) 0 n = false := zmdam (by rw [vrs_low hW (by decide) (by decide) (by decide) (by decide)]; exact hn) (vrs_wf hW k).gN
theorem hP_calm {v : zV} (hW : zWF v) (k : Nat) : zMask (vrs v k 8) (fun g => vdam (vrs v k) 0 g) &&& (2 ^ v 8 - 1) = 0 ↔ vany (vrs v k) = false := by
  have e : vrs v k 8 = v 8 := vrs_low hW (by decide) (by decide) (by decide) (by decide) k
  have := zmany (v := vrs v k)
  rw [e] at this ⊢
  exact this
theorem zp31 {b : Nat} (h : b < 31) : 2 ^ b < 2 ^ 31 := Nat.pow_lt_pow_right (by decide) h
theorem jX9_roundsToRepair {v : zV} {x : Int32} {Q : Option Value → zM → Prop} {X : String → zM → Prop} {M : zM} (hC : zCl M v) (hW : zWF v) (hx1 : (a_toRepair v x).1 = 1 → X "java/lang/IndexOutOfBoundsException" M) (h : (a_toRepair v x).1 = 0 → ∀ M', zQn M M' → Q (some (.int (a_toRepair v x).2)) M') : zJ yX9_roundsToRepair cX9_roundsToRepair 2 (some .int) rX9_roundsToRepair Q X rX9_roundsToRepair.cells rX9_roundsToRepair.slots 0 (zEnt 2 [.ref 99, .int x]) [] M := by
  have hR := hC.1
  have h6 := hW.nN
  have h7 := hW.tN
  have h8 := hW.gN
  have h9 := hW.hN
  show zJ yX9_roundsToRepair cX9_roundsToRepair 2 (some .int) rX9_roundsToRepair Q X 1 6 0 [some (.ref 99), some (.int x)] [] M
  refine zj_aload0 (n := 1) rfl dX9_roundsToRepair_0 ?_
  refine zj_iload1 (n := 2) rfl dX9_roundsToRepair_1 ?_
  refine zj_callV1 (n := 5) (a' := 0) (b' := 0) rfl dX9_roundsToRepair_2 zm_X9_145 (by decide) (by decide) rfl (Nat.le_of_ble_eq_true rfl) (Nat.le_of_ble_eq_true rfl) (Nat.le_of_ble_eq_true rfl) (Nat.le_of_ble_eq_true rfl) (jX9_needGroup hR (fun c2 => ?_) (fun c2 => hx1 (by simp [a_toRepair, c2])))
  obtain ⟨n, hn, rfl⟩ := (zin_iff (by omega)).mp c2
  refine zj_aload0 (n := 6) rfl dX9_roundsToRepair_5 ?_
  refine zj_getr (n := 9) (q := 110) rfl dX9_roundsToRepair_6 zf_X9_47 rfl (by decide) (by decide) rfl ?_
  refine zj_aload0 (n := 10) rfl dX9_roundsToRepair_9 ?_
  refine zj_getr (n := 13) (q := 0) rfl dX9_roundsToRepair_10 zf_X9_33 rfl (by decide) (by decide) rfl ?_
  refine zj_iconstN_1 (n := 14) rfl dX9_roundsToRepair_13 ?_
  refine zj_iload1 (n := 15) rfl dX9_roundsToRepair_14 ?_
  refine zj_ishlN1 (n := 16) rfl dX9_roundsToRepair_15 (by omega) ?_
  refine zj_callV2 (n := 19) (a' := 0) (b' := 0) rfl dX9_roundsToRepair_16 zm_X9_276 (by decide) (by decide) rfl (Nat.le_of_ble_eq_true rfl) (Nat.le_of_ble_eq_true rfl) (Nat.le_of_ble_eq_true rfl) (Nat.le_of_ble_eq_true rfl) (jX2_untilWhole (P := fun k => vdam (vrs v k) 0 n) hC.2.1 hR hW hC.2.2.2 (zp31 (by omega)) (fun k _ => hP_rep hW hn k) ?_)
  intro M2 hF2 hO2 hf2 hp2
  have hQ2 := hC.ofF hF2 hO2 hf2
  refine zj_ireturn dX9_roundsToRepair_19 rfl rfl ?_
  have h := h (by simp only [a_toRepair, c2, if_true, Bool.and_true, Bool.true_and]) _ (hQ2)
  simp only [a_toRepair, c2, xn_at (show n < 2 ^ 31 by omega), if_true, Bool.and_true, Bool.true_and] at h
  exact h
theorem jX9_roundsToCalm {v : zV} {Q : Option Value → zM → Prop} {X : String → zM → Prop} {M : zM} (hC : zCl M v) (hW : zWF v) (h : (a_toCalm v).1 = 0 → ∀ M', zQn M M' → Q (some (.int (a_toCalm v).2)) M') : zJ yX9_roundsToCalm cX9_roundsToCalm 1 (some .int) rX9_roundsToCalm Q X rX9_roundsToCalm.cells rX9_roundsToCalm.slots 0 (zEnt 1 [.ref 99]) [] M := by
  have hR := hC.1
  have h6 := hW.nN
  have h7 := hW.tN
  have h8 := hW.gN
  have h9 := hW.hN
  show zJ yX9_roundsToCalm cX9_roundsToCalm 1 (some .int) rX9_roundsToCalm Q X 0 0 0 [some (.ref 99)] [] M
  refine zj_aload0 (n := 1) rfl dX9_roundsToCalm_0 ?_
  refine zj_getr (n := 4) (q := 110) rfl dX9_roundsToCalm_1 zf_X9_47 rfl (by decide) (by decide) rfl ?_
  refine zj_aload0 (n := 5) rfl dX9_roundsToCalm_4 ?_
  refine zj_getr (n := 8) (q := 0) rfl dX9_roundsToCalm_5 zf_X9_33 rfl (by decide) (by decide) rfl ?_
  refine zj_aload0 (n := 9) rfl dX9_roundsToCalm_8 ?_
  refine zj_getr (n := 12) (q := 0) rfl dX9_roundsToCalm_9 zf_X9_33 rfl (by decide) (by decide) rfl ?_
  refine zj_callV0 (n := 15) (a' := 0) (b' := 0) rfl dX9_roundsToCalm_12 zm_X9_279 (by decide) (by decide) rfl (Nat.le_of_ble_eq_true rfl) (Nat.le_of_ble_eq_true rfl) (Nat.le_of_ble_eq_true rfl) (Nat.le_of_ble_eq_true rfl) (jX6_allGroups hR hW ?_)
  refine zj_callV2 (n := 18) (a' := 0) (b' := 0) rfl dX9_roundsToCalm_15 zm_X9_276 (by decide) (by decide) rfl (Nat.le_of_ble_eq_true rfl) (Nat.le_of_ble_eq_true rfl) (Nat.le_of_ble_eq_true rfl) (Nat.le_of_ble_eq_true rfl) (jX2_untilWhole (P := fun k => vany (vrs v k)) hC.2.1 hR hW hC.2.2.2 (Nat.lt_of_le_of_lt (Nat.sub_le _ _) (zp31 (by omega))) (fun k _ => hP_calm hW k) ?_)
  intro M2 hF2 hO2 hf2 hp2
  have hQ2 := hC.ofF hF2 hO2 hf2
  refine zj_ireturn dX9_roundsToCalm_18 rfl rfl ?_
  unfold a_toCalm at h
  dsimp only at h
  exact h rfl _ hQ2
theorem jX9_paidUntilCalm {v : zV} {Q : Option Value → zM → Prop} {X : String → zM → Prop} {M : zM} (hC : zCl M v) (hW : zWF v) (h : (a_paid v).1 = 0 → ∀ M', zQn M M' → Q (some (.int (a_paid v).2)) M') : zJ yX9_paidUntilCalm cX9_paidUntilCalm 2 (some .int) rX9_paidUntilCalm Q X rX9_paidUntilCalm.cells rX9_paidUntilCalm.slots 0 (zEnt 2 [.ref 99]) [] M := by
  have hR := hC.1
  have h6 := hW.nN
  have h7 := hW.tN
  have h8 := hW.gN
  have h9 := hW.hN
  show zJ yX9_paidUntilCalm cX9_paidUntilCalm 2 (some .int) rX9_paidUntilCalm Q X 0 0 0 [some (.ref 99), none] [] M
  refine zj_aload0 (n := 1) rfl dX9_paidUntilCalm_0 ?_
  refine zj_getr (n := 4) (q := 110) rfl dX9_paidUntilCalm_1 zf_X9_47 rfl (by decide) (by decide) rfl ?_
  refine zj_aload0 (n := 5) rfl dX9_paidUntilCalm_4 ?_
  refine zj_getr (n := 8) (q := 0) rfl dX9_paidUntilCalm_5 zf_X9_33 rfl (by decide) (by decide) rfl ?_
  refine zj_aload0 (n := 9) rfl dX9_paidUntilCalm_8 ?_
  refine zj_getr (n := 12) (q := 0) rfl dX9_paidUntilCalm_9 zf_X9_33 rfl (by decide) (by decide) rfl ?_
  refine zj_callV0 (n := 15) (a' := 0) (b' := 0) rfl dX9_paidUntilCalm_12 zm_X9_279 (by decide) (by decide) rfl (Nat.le_of_ble_eq_true rfl) (Nat.le_of_ble_eq_true rfl) (Nat.le_of_ble_eq_true rfl) (Nat.le_of_ble_eq_true rfl) (jX6_allGroups hR hW ?_)
  refine zj_callV2 (n := 18) (a' := 0) (b' := 0) rfl dX9_paidUntilCalm_15 zm_X9_276 (by decide) (by decide) rfl (Nat.le_of_ble_eq_true rfl) (Nat.le_of_ble_eq_true rfl) (Nat.le_of_ble_eq_true rfl) (Nat.le_of_ble_eq_true rfl) (jX2_untilWhole (P := fun k => vany (vrs v k)) hC.2.1 hR hW hC.2.2.2 (Nat.lt_of_le_of_lt (Nat.sub_le _ _) (zp31 (by omega))) (fun k _ => hP_calm hW k) ?_)
  intro M2 hF2 hO2 hf2 hp2
  have hQ2 := hC.ofF hF2 hO2 hf2
  rw [show zfo 301 (fun k => !vany (vrs v k)) = vcalm v from rfl]
  have hp2 : M2.2.1 110 3 = lN (vrpaid v (min (vcalmN v) 300)) := hp2
  refine zj_iconst_m1 (n := 19) rfl dX9_paidUntilCalm_18 ?_
  refine zj_icmpO_eq (n := 22) (tgt := 26) rfl dX9_paidUntilCalm_19 (by decide) (fun m hm => by have := vcalm_lt hm; omega) (fun c19 => ?_) (fun m19 c19 => ?_)
  · refine zj_iconstN_0 (n := 27) rfl dX9_paidUntilCalm_26 ?_
    refine zj_istore1 (n := 28) rfl dX9_paidUntilCalm_27 rfl (Nat.le_of_ble_eq_true rfl) ?_
    refine zj_iload1 (n := 29) rfl dX9_paidUntilCalm_28 ?_
    refine zj_ifN_eq (n := 32) (tgt := 49) rfl dX9_paidUntilCalm_29 (by decide) (by omega) (fun _ => ?_) (fun h => absurd h (by decide))
    refine zj_iconst_m1 (n := 50) rfl dX9_paidUntilCalm_49 ?_
    refine zj_ireturn dX9_paidUntilCalm_50 rfl rfl ?_
    unfold a_paid at h
    rw [if_neg (fun q => by rw [vcalm_N, if_pos q] at c19; cases c19)] at h
    dsimp only at h
    exact h rfl _ hQ2
  · refine zj_iconstN_1 (n := 23) rfl dX9_paidUntilCalm_22 ?_
    refine zj_goto (tgt := 27) dX9_paidUntilCalm_23 (by decide) ?_
    refine zj_istore1 (n := 28) rfl dX9_paidUntilCalm_27 rfl (Nat.le_of_ble_eq_true rfl) ?_
    refine zj_iload1 (n := 29) rfl dX9_paidUntilCalm_28 ?_
    refine zj_ifN_eq (n := 32) (tgt := 49) rfl dX9_paidUntilCalm_29 (by decide) (by omega) (fun h => absurd h (by decide)) (fun _ => ?_)
    refine zj_aload0 (n := 33) rfl dX9_paidUntilCalm_32 ?_
    refine zj_getr (n := 36) (q := 110) rfl dX9_paidUntilCalm_33 zf_X9_47 rfl (by decide) (by decide) rfl ?_
    refine zj_getlN (e := vrpaid v (min (vcalmN v) 300)) (n := 39) rfl dX9_paidUntilCalm_36 zf_X9_290 rfl (by decide) (by decide) hp2 ?_
    refine zj_ldc2N (v := 2000000000) (n := 42) rfl dX9_paidUntilCalm_39 zc_X9_294 ?_
    refine zj_lminN (n := 45) rfl dX9_paidUntilCalm_42 zm_X9_296 (by decide) (Nat.le_of_ble_eq_true rfl) (by first | omega | (have := vrpaid_le hW (min (vcalmN v) 300) (by omega); omega)) (by first | omega | (have := vrpaid_le hW (min (vcalmN v) 300) (by omega); omega)) ?_
    refine zj_l2iN (n := 46) rfl dX9_paidUntilCalm_45 ?_
    refine zj_goto (tgt := 50) dX9_paidUntilCalm_46 (by decide) ?_
    refine zj_ireturn dX9_paidUntilCalm_50 rfl rfl ?_
    have q9 : vcalmN v < 301 := Classical.byContradiction (fun q => by rw [vcalm_N, if_neg q] at c19; cases c19)
    unfold a_paid at h
    rw [if_pos q9] at h
    dsimp only at h
    rw [show min (vcalmN v) 300 = vcalmN v by omega]
    rw [Nat.min_comm]
    exact h rfl _ hQ2
theorem jX9_soldIn {v : zV} {x : Int32} {Q : Option Value → zM → Prop} {X : String → zM → Prop} {M : zM} (hC : zCl M v) (hW : zWF v) (hx1 : (a_soldIn v x).1 = 1 → X "java/lang/IllegalArgumentException" M) (h : (a_soldIn v x).1 = 0 → ∀ M', zQn M M' → Q (some (.int (a_soldIn v x).2)) M') : zJ yX9_soldIn cX9_soldIn 2 (some .int) rX9_soldIn Q X rX9_soldIn.cells rX9_soldIn.slots 0 (zEnt 2 [.ref 99, .int x]) [] M := by
  have hR := hC.1
  have h6 := hW.nN
  have h7 := hW.tN
  have h8 := hW.gN
  have h9 := hW.hN
  show zJ yX9_soldIn cX9_soldIn 2 (some .int) rX9_soldIn Q X 1 6 0 [some (.ref 99), some (.int x)] [] M
  refine zj_iload1 (n := 1) rfl dX9_soldIn_0 ?_
  refine zj_if_lt (n := 4) (tgt := 15) rfl dX9_soldIn_1 (by decide) (fun c1 => ?_) (fun c1 => ?_)
  · refine zj_iconstN_0 (n := 16) rfl dX9_soldIn_15 ?_
    refine zj_callS1 (n := 19) (a' := 0) (b' := 0) rfl dX9_soldIn_16 zm_X9_72 (by decide) (Nat.le_of_ble_eq_true rfl) (Nat.le_of_ble_eq_true rfl) (Nat.le_of_ble_eq_true rfl) (Nat.le_of_ble_eq_true rfl) (jX9_needArgument (p := false) (fun q => by cases q) (fun _ => hx1 (by simp [a_soldIn, zin_f1 c1])))
  · refine zj_iload1 (n := 5) rfl dX9_soldIn_4 ?_
    refine zj_sipushN (v := 300) (n := 8) rfl dX9_soldIn_5 (by decide) ?_
    refine zj_icmp_gt (n := 11) (tgt := 15) rfl dX9_soldIn_8 (by decide) (fun c8 => ?_) (fun c8 => ?_)
    · refine zj_iconstN_0 (n := 16) rfl dX9_soldIn_15 ?_
      refine zj_callS1 (n := 19) (a' := 0) (b' := 0) rfl dX9_soldIn_16 zm_X9_72 (by decide) (Nat.le_of_ble_eq_true rfl) (Nat.le_of_ble_eq_true rfl) (Nat.le_of_ble_eq_true rfl) (Nat.le_of_ble_eq_true rfl) (jX9_needArgument (p := false) (fun q => by cases q) (fun _ => hx1 (by simp [a_soldIn, zin_fg (k := 300) (by decide) c8])))
    · refine zj_iconstN_1 (n := 12) rfl dX9_soldIn_11 ?_
      refine zj_goto (tgt := 16) dX9_soldIn_12 (by decide) ?_
      refine zj_callS1 (n := 19) (a' := 0) (b' := 0) rfl dX9_soldIn_16 zm_X9_72 (by decide) (Nat.le_of_ble_eq_true rfl) (Nat.le_of_ble_eq_true rfl) (Nat.le_of_ble_eq_true rfl) (Nat.le_of_ble_eq_true rfl) (jX9_needArgument (p := true) (fun _ => ?_) (fun q => by cases q))
      have c2 : zin x 301 = true := zin_g (k := 300) (by decide) c1 c8
      obtain ⟨n, hn, rfl⟩ := (zin_iff (by decide)).mp c2
      refine zj_aload0 (n := 20) rfl dX9_soldIn_19 ?_
      refine zj_getr (n := 23) (q := 110) rfl dX9_soldIn_20 zf_X9_47 rfl (by decide) (by decide) rfl ?_
      refine zj_aload0 (n := 24) rfl dX9_soldIn_23 ?_
      refine zj_getr (n := 27) (q := 0) rfl dX9_soldIn_24 zf_X9_33 rfl (by decide) (by decide) rfl ?_
      refine zj_iload1 (n := 28) rfl dX9_soldIn_27 ?_
      refine zj_callV2 (n := 31) (a' := 0) (b' := 0) rfl dX9_soldIn_28 zm_X9_282 (by decide) (by decide) rfl (Nat.le_of_ble_eq_true rfl) (Nat.le_of_ble_eq_true rfl) (Nat.le_of_ble_eq_true rfl) (Nat.le_of_ble_eq_true rfl) (jX2_run hC.2.1 hR hW hC.2.2.2 (by omega) ?_)
      intro M2 hF2 hR2 hO2 hs2 hp2
      have hQ2 := hC.ofF hF2 hO2 hR2.f
      refine zj_aload0 (n := 32) rfl dX9_soldIn_31 ?_
      refine zj_getr (n := 35) (q := 110) rfl dX9_soldIn_32 zf_X9_47 rfl (by decide) (by decide) rfl ?_
      refine zj_getiN (e := vrsold v n) (n := 38) rfl dX9_soldIn_35 zf_X9_286 rfl (by decide) (by decide) hs2 ?_
      refine zj_ireturn dX9_soldIn_38 rfl rfl ?_
      have h := h (by simp only [a_soldIn, c2, if_true, Bool.and_true, Bool.true_and]) _ (hQ2)
      simp only [a_soldIn, c2, xn_at (show n < 2 ^ 31 by omega), if_true, Bool.and_true, Bool.true_and] at h
      exact h
theorem jX9_purseAfter {v : zV} {x : Int32} {z : Int32} {Q : Option Value → zM → Prop} {X : String → zM → Prop} {M : zM} (hC : zCl M v) (hW : zWF v) (hx1 : (a_purse v x z).1 = 1 → X "java/lang/IndexOutOfBoundsException" M) (hx2 : (a_purse v x z).1 = 2 → X "java/lang/IllegalArgumentException" M) (h : (a_purse v x z).1 = 0 → ∀ M', zQn M M' → Q (some (.int (a_purse v x z).2)) M') : zJ yX9_purseAfter cX9_purseAfter 3 (some .int) rX9_purseAfter Q X rX9_purseAfter.cells rX9_purseAfter.slots 0 (zEnt 3 [.ref 99, .int x, .int z]) [] M := by
  have hR := hC.1
  have h6 := hW.nN
  have h7 := hW.tN
  have h8 := hW.gN
  have h9 := hW.hN
  show zJ yX9_purseAfter cX9_purseAfter 3 (some .int) rX9_purseAfter Q X 2 12 0 [some (.ref 99), some (.int x), some (.int z)] [] M
  refine zj_aload0 (n := 1) rfl dX9_purseAfter_0 ?_
  refine zj_iload1 (n := 2) rfl dX9_purseAfter_1 ?_
  refine zj_callV1 (n := 5) (a' := 1) (b' := 6) rfl dX9_purseAfter_2 zm_X9_139 (by decide) (by decide) rfl (Nat.le_of_ble_eq_true rfl) (Nat.le_of_ble_eq_true rfl) (Nat.le_of_ble_eq_true rfl) (Nat.le_of_ble_eq_true rfl) (jX9_needTenant hR (fun c2 => ?_) (fun c2 => hx1 (by simp [a_purse, c2])))
  obtain ⟨n, hn, rfl⟩ := (zin_iff (by omega)).mp c2
  refine zj_iload2 (n := 6) rfl dX9_purseAfter_5 ?_
  refine zj_if_lt (n := 9) (tgt := 20) rfl dX9_purseAfter_6 (by decide) (fun c6 => ?_) (fun c6 => ?_)
  · refine zj_iconstN_0 (n := 21) rfl dX9_purseAfter_20 ?_
    refine zj_callS1 (n := 24) (a' := 0) (b' := 0) rfl dX9_purseAfter_21 zm_X9_72 (by decide) (Nat.le_of_ble_eq_true rfl) (Nat.le_of_ble_eq_true rfl) (Nat.le_of_ble_eq_true rfl) (Nat.le_of_ble_eq_true rfl) (jX9_needArgument (p := false) (fun q => by cases q) (fun _ => hx2 (by simp [a_purse, c2, zin_f1 c6])))
  · refine zj_iload2 (n := 10) rfl dX9_purseAfter_9 ?_
    refine zj_sipushN (v := 300) (n := 13) rfl dX9_purseAfter_10 (by decide) ?_
    refine zj_icmp_gt (n := 16) (tgt := 20) rfl dX9_purseAfter_13 (by decide) (fun c13 => ?_) (fun c13 => ?_)
    · refine zj_iconstN_0 (n := 21) rfl dX9_purseAfter_20 ?_
      refine zj_callS1 (n := 24) (a' := 0) (b' := 0) rfl dX9_purseAfter_21 zm_X9_72 (by decide) (Nat.le_of_ble_eq_true rfl) (Nat.le_of_ble_eq_true rfl) (Nat.le_of_ble_eq_true rfl) (Nat.le_of_ble_eq_true rfl) (jX9_needArgument (p := false) (fun q => by cases q) (fun _ => hx2 (by simp [a_purse, c2, zin_fg (k := 300) (by decide) c13])))
    · refine zj_iconstN_1 (n := 17) rfl dX9_purseAfter_16 ?_
      refine zj_goto (tgt := 21) dX9_purseAfter_17 (by decide) ?_
      refine zj_callS1 (n := 24) (a' := 0) (b' := 0) rfl dX9_purseAfter_21 zm_X9_72 (by decide) (Nat.le_of_ble_eq_true rfl) (Nat.le_of_ble_eq_true rfl) (Nat.le_of_ble_eq_true rfl) (Nat.le_of_ble_eq_true rfl) (jX9_needArgument (p := true) (fun _ => ?_) (fun q => by cases q))
      have d2 : zin z 301 = true := zin_g (k := 300) (by decide) c6 c13
      obtain ⟨k, hk, rfl⟩ := (zin_iff (by decide)).mp d2
      refine zj_aload0 (n := 25) rfl dX9_purseAfter_24 ?_
      refine zj_getr (n := 28) (q := 110) rfl dX9_purseAfter_25 zf_X9_47 rfl (by decide) (by decide) rfl ?_
      refine zj_aload0 (n := 29) rfl dX9_purseAfter_28 ?_
      refine zj_getr (n := 32) (q := 0) rfl dX9_purseAfter_29 zf_X9_33 rfl (by decide) (by decide) rfl ?_
      refine zj_iload2 (n := 33) rfl dX9_purseAfter_32 ?_
      refine zj_callV2 (n := 36) (a' := 0) (b' := 0) rfl dX9_purseAfter_33 zm_X9_282 (by decide) (by decide) rfl (Nat.le_of_ble_eq_true rfl) (Nat.le_of_ble_eq_true rfl) (Nat.le_of_ble_eq_true rfl) (Nat.le_of_ble_eq_true rfl) (jX2_run hC.2.1 hR hW hC.2.2.2 (by omega) ?_)
      intro M2 hF2 hR2 hO2 hs2 hp2
      have hQ2 := hC.ofF hF2 hO2 hR2.f
      have hn7 : n < vrs v k 7 := by rw [vrs_low hW (by decide) (by decide) (by decide) (by decide)]; exact hn
      refine zj_aload0 (n := 37) rfl dX9_purseAfter_36 ?_
      refine zj_getr (n := 40) (q := 110) rfl dX9_purseAfter_37 zf_X9_47 rfl (by decide) (by decide) rfl ?_
      refine zj_getr (n := 43) (q := 18) rfl dX9_purseAfter_40 zf_X9_287 rfl (by decide) (by decide) rfl ?_
      refine zj_getr (n := 46) (q := 21) rfl dX9_purseAfter_43 zf_X9_142 rfl (by decide) (by decide) rfl ?_
      refine zj_iload1 (n := 47) rfl dX9_purseAfter_46 ?_
      refine zj_iconstN_2 (n := 48) rfl dX9_purseAfter_47 ?_
      refine zj_callV2 (n := 51) (a' := 0) (b' := 0) rfl dX9_purseAfter_48 zm_X9_126 (by decide) (by decide) rfl (Nat.le_of_ble_eq_true rfl) (Nat.le_of_ble_eq_true rfl) (Nat.le_of_ble_eq_true rfl) (Nat.le_of_ble_eq_true rfl) (jT_get (e := vrs v k (202 + 11 * n + 2)) hR2.t.1 hn7 (by decide) (hR2.t.c hn7 (by decide)) ?_)
      refine zj_ireturn dX9_purseAfter_51 rfl rfl ?_
      have h := h (by simp only [a_purse, c2, d2, if_true, Bool.and_true, Bool.true_and]) _ (hQ2)
      simp only [a_purse, c2, d2, xn_at (show n < 2 ^ 31 by omega), xn_at (show k < 2 ^ 31 by omega), if_true, Bool.and_true, Bool.true_and] at h
      exact h
theorem jX9_fewestFailures {v : zV} {Q : Option Value → zM → Prop} {X : String → zM → Prop} {M : zM} (hC : zCl M v) (hW : zWF v) (h : (a_fewest v).1 = 0 → ∀ M', zQn M M' → Q (some (.int (a_fewest v).2)) M') : zJ yX9_fewestFailures cX9_fewestFailures 4 (some .int) rX9_fewestFailures Q X rX9_fewestFailures.cells rX9_fewestFailures.slots 0 (zEnt 4 [.ref 99]) [] M := by
  have hR := hC.1
  have h6 := hW.nN
  have h7 := hW.tN
  have h8 := hW.gN
  have h9 := hW.hN
  show zJ yX9_fewestFailures cX9_fewestFailures 4 (some .int) rX9_fewestFailures Q X 0 0 0 [some (.ref 99), none, none, none] [] M
  refine zj_iconst_m1 (n := 1) rfl dX9_fewestFailures_0 ?_
  refine zj_istore1 (n := 2) rfl dX9_fewestFailures_1 rfl (Nat.le_of_ble_eq_true rfl) ?_
  refine zj_iconstN_0 (n := 3) rfl dX9_fewestFailures_2 ?_
  refine zj_istore2 (n := 4) rfl dX9_fewestFailures_3 rfl (Nat.le_of_ble_eq_true rfl) ?_
  refine zj_sub (l' := [some (.ref 99), some (.int (zo (vfew v 0))), some (.int (nI 0)), none]) (by simp only [zLe, eq_self, and_true, true_and, Value.int.injEq]; exact rfl) ?_
  refine zFor_rule (P := fun g (_ : Unit) => zJ yX9_fewestFailures cX9_fewestFailures 4 (some .int) rX9_fewestFailures Q X 0 0 4 [some (.ref 99), some (.int (zo (vfew v g))), some (.int (nI g)), none] [] M) (n := v 8) (f := fun _ s => s) (s0 := ()) ?_ ?_
  · intro g _ hg hk
    have hvn := vnav_le (v := v) (d := 0) (g := g)
    have hsh := (hW.sh hg).2
    have hg2 : v (268 + 23 * g + 2) ≤ 6 := (hW.grp hg).2.2.2.1
    refine zj_iload2 (n := 5) rfl dX9_fewestFailures_4 ?_
    refine zj_aload0 (n := 6) rfl dX9_fewestFailures_5 ?_
    refine zj_getr (n := 9) (q := 0) rfl dX9_fewestFailures_6 zf_X9_33 rfl (by decide) (by decide) rfl ?_
    refine zj_getr (n := 12) (q := 5) rfl dX9_fewestFailures_9 zf_X9_91 rfl (by decide) (by decide) rfl ?_
    refine zj_getiN (e := v 8) (n := 15) rfl dX9_fewestFailures_12 zf_X9_95 rfl (by decide) (by decide) hR.g.1.2.2.2.1 ?_
    refine zj_icmpN_ge (n := 18) (tgt := 49) rfl dX9_fewestFailures_15 (by decide) (by omega) (by omega) (fun c15 => by omega) (fun c15 => ?_)
    refine zj_aload0 (n := 19) rfl dX9_fewestFailures_18 ?_
    refine zj_getr (n := 22) (q := 0) rfl dX9_fewestFailures_19 zf_X9_33 rfl (by decide) (by decide) rfl ?_
    refine zj_iload2 (n := 23) rfl dX9_fewestFailures_22 ?_
    refine zj_callV1 (n := 26) (a' := 0) (b' := 0) rfl dX9_fewestFailures_23 zm_X9_264 (by decide) (by decide) rfl (Nat.le_of_ble_eq_true rfl) (Nat.le_of_ble_eq_true rfl) (Nat.le_of_ble_eq_true rfl) (Nat.le_of_ble_eq_true rfl) (jX6_failuresToLose hR hW hg ?_)
    refine zj_istore3 (n := 27) rfl dX9_fewestFailures_26 rfl (Nat.le_of_ble_eq_true rfl) ?_
    refine zj_iload3 (n := 28) rfl dX9_fewestFailures_27 ?_
    refine zj_ifD_le (n := 31) (tgt := 43) rfl dX9_fewestFailures_28 (by decide) (by omega) (by omega) (fun c28 => ?_) (fun c28 => ?_)
    · refine zj_iincN2 (n := 46) rfl dX9_fewestFailures_43 rfl (Nat.le_of_ble_eq_true rfl) ?_
      refine zj_goto (tgt := 4) dX9_fewestFailures_46 (by decide) ?_
      refine zj_keep [true, true, true, false] ?_
      have hl : vlost v 0 g = true := decide_eq_true (show vnav v 0 g < v (268 + 23 * g + 2) by omega)
      rw [vfew_succ, hl, Bool.not_true, Bool.false_and, if_neg (by decide)] at hk
      exact hk
    · have hl : vlost v 0 g = false := decide_eq_false (show ¬ vnav v 0 g < v (268 + 23 * g + 2) by omega)
      rw [show nI (vnav v 0 g + 1) - nI (v (268 + 23 * g + 2)) = nI (vfl v g) from by rw [pk_sub (by omega)]; exact congrArg nI (by unfold vfl; omega)]
      refine zj_iload1 (n := 32) rfl dX9_fewestFailures_31 ?_
      refine zj_iconst_m1 (n := 33) rfl dX9_fewestFailures_32 ?_
      refine zj_icmpO_eq (n := 36) (tgt := 41) rfl dX9_fewestFailures_33 (by decide) (fun m hm => by have := vfew_lt hW g (by omega) m hm; omega) (fun c33 => ?_) (fun m33 c33 => ?_)
      · refine zj_iload3 (n := 42) rfl dX9_fewestFailures_41 ?_
        refine zj_istore1 (n := 43) rfl dX9_fewestFailures_42 rfl (Nat.le_of_ble_eq_true rfl) ?_
        refine zj_iincN2 (n := 46) rfl dX9_fewestFailures_43 rfl (Nat.le_of_ble_eq_true rfl) ?_
        refine zj_goto (tgt := 4) dX9_fewestFailures_46 (by decide) ?_
        refine zj_keep [true, true, true, false] ?_
        rw [vfew_succ, hl, c33, if_pos (by rfl)] at hk
        exact hk
      · rw [c33]
        refine zj_iload3 (n := 37) rfl dX9_fewestFailures_36 ?_
        refine zj_iload1 (n := 38) rfl dX9_fewestFailures_37 ?_
        refine zj_icmpN_ge (n := 41) (tgt := 43) rfl dX9_fewestFailures_38 (by decide) (by first | omega | (have := vfew_lt hW g (by omega) m33 c33; omega) | (unfold vfl; omega)) (by first | omega | (have := vfew_lt hW g (by omega) m33 c33; omega) | (unfold vfl; omega)) (fun c38 => ?_) (fun c38 => ?_)
        · refine zj_iincN2 (n := 46) rfl dX9_fewestFailures_43 rfl (Nat.le_of_ble_eq_true rfl) ?_
          refine zj_goto (tgt := 4) dX9_fewestFailures_46 (by decide) ?_
          refine zj_keep [true, true, true, false] ?_
          have e9 : decide (vfl v g < (vfew v g).getD 0) = false := by rw [c33]; exact decide_eq_false (by show ¬ vfl v g < m33; omega)
          rw [vfew_succ, hl, e9, show (vfew v g).isNone = false by rw [c33]; rfl, if_neg (by decide)] at hk
          rw [← c33]
          exact hk
        · refine zj_iload3 (n := 42) rfl dX9_fewestFailures_41 ?_
          refine zj_istore1 (n := 43) rfl dX9_fewestFailures_42 rfl (Nat.le_of_ble_eq_true rfl) ?_
          refine zj_iincN2 (n := 46) rfl dX9_fewestFailures_43 rfl (Nat.le_of_ble_eq_true rfl) ?_
          refine zj_goto (tgt := 4) dX9_fewestFailures_46 (by decide) ?_
          refine zj_keep [true, true, true, false] ?_
          have e9 : decide (vfl v g < (vfew v g).getD 0) = true := by rw [c33]; exact decide_eq_true (show vfl v g < m33 by omega)
          rw [vfew_succ, hl, e9, Bool.or_true, if_pos (by rfl)] at hk
          exact hk
  · skip
    refine zj_iload2 (n := 5) rfl dX9_fewestFailures_4 ?_
    refine zj_aload0 (n := 6) rfl dX9_fewestFailures_5 ?_
    refine zj_getr (n := 9) (q := 0) rfl dX9_fewestFailures_6 zf_X9_33 rfl (by decide) (by decide) rfl ?_
    refine zj_getr (n := 12) (q := 5) rfl dX9_fewestFailures_9 zf_X9_91 rfl (by decide) (by decide) rfl ?_
    refine zj_getiN (e := v 8) (n := 15) rfl dX9_fewestFailures_12 zf_X9_95 rfl (by decide) (by decide) hR.g.1.2.2.2.1 ?_
    refine zj_icmpN_ge (n := 18) (tgt := 49) rfl dX9_fewestFailures_15 (by decide) (by omega) (by omega) (fun c15 => ?_) (fun c15 => by omega)
    refine zj_iload1 (n := 50) rfl dX9_fewestFailures_49 ?_
    exact zj_ireturn dX9_fewestFailures_50 rfl rfl (h rfl _ hC.rf)
theorem jX6_tableOf0 {Q : Option Value → zM → Prop} {X : String → zM → Prop} {M : zM} (h : Q (some (.ref 1)) M) : zJ yX6_tableOf cX6_tableOf 2 (some (.object "RepairAuction$Table")) rX6_tableOf Q X rX6_tableOf.cells rX6_tableOf.slots 0 (zEnt 2 [.ref 0, .int (nI 0)]) [] M := by
  show zJ yX6_tableOf cX6_tableOf 2 (some (.object "RepairAuction$Table")) rX6_tableOf Q X 0 0 0 [some (.ref 0), some (.int (nI 0))] [] M
  refine zj_iload1 (n := 1) rfl dX6_tableOf_0 ?_
  refine zj_ifN_ne (n := 4) (tgt := 9) rfl dX6_tableOf_1 (by decide) (by omega) (fun h => absurd h (by decide)) (fun _ => ?_)
  refine zj_aload0 (n := 5) rfl dX6_tableOf_4 ?_
  refine zj_getr (n := 8) (q := 1) rfl dX6_tableOf_5 zf_X6_14 rfl (by decide) (by decide) rfl ?_
  exact zj_areturn dX6_tableOf_8 rfl h
theorem jX6_tableOf1 {Q : Option Value → zM → Prop} {X : String → zM → Prop} {M : zM} (h : Q (some (.ref 3)) M) : zJ yX6_tableOf cX6_tableOf 2 (some (.object "RepairAuction$Table")) rX6_tableOf Q X rX6_tableOf.cells rX6_tableOf.slots 0 (zEnt 2 [.ref 0, .int (nI 1)]) [] M := by
  show zJ yX6_tableOf cX6_tableOf 2 (some (.object "RepairAuction$Table")) rX6_tableOf Q X 0 0 0 [some (.ref 0), some (.int (nI 1))] [] M
  refine zj_iload1 (n := 1) rfl dX6_tableOf_0 ?_
  refine zj_ifN_ne (n := 4) (tgt := 9) rfl dX6_tableOf_1 (by decide) (by omega) (fun _ => ?_) (fun h => absurd h (by decide))
  refine zj_iload1 (n := 10) rfl dX6_tableOf_9 ?_
  refine zj_iconstN_1 (n := 11) rfl dX6_tableOf_10 ?_
  refine zj_icmpN_ne (n := 14) (tgt := 21) rfl dX6_tableOf_11 (by decide) (by omega) (by omega) (fun h => absurd h (by decide)) (fun _ => ?_)
  refine zj_aload0 (n := 15) rfl dX6_tableOf_14 ?_
  refine zj_getr (n := 18) (q := 3) rfl dX6_tableOf_15 zf_X6_20 rfl (by decide) (by decide) rfl ?_
  refine zj_goto (tgt := 25) dX6_tableOf_18 (by decide) ?_
  exact zj_areturn dX6_tableOf_25 rfl h
theorem jX6_tableOf2 {Q : Option Value → zM → Prop} {X : String → zM → Prop} {M : zM} (h : Q (some (.ref 5)) M) : zJ yX6_tableOf cX6_tableOf 2 (some (.object "RepairAuction$Table")) rX6_tableOf Q X rX6_tableOf.cells rX6_tableOf.slots 0 (zEnt 2 [.ref 0, .int (nI 2)]) [] M := by
  show zJ yX6_tableOf cX6_tableOf 2 (some (.object "RepairAuction$Table")) rX6_tableOf Q X 0 0 0 [some (.ref 0), some (.int (nI 2))] [] M
  refine zj_iload1 (n := 1) rfl dX6_tableOf_0 ?_
  refine zj_ifN_ne (n := 4) (tgt := 9) rfl dX6_tableOf_1 (by decide) (by omega) (fun _ => ?_) (fun h => absurd h (by decide))
  refine zj_iload1 (n := 10) rfl dX6_tableOf_9 ?_
  refine zj_iconstN_1 (n := 11) rfl dX6_tableOf_10 ?_
  refine zj_icmpN_ne (n := 14) (tgt := 21) rfl dX6_tableOf_11 (by decide) (by omega) (by omega) (fun _ => ?_) (fun h => absurd h (by decide))
  refine zj_aload0 (n := 22) rfl dX6_tableOf_21 ?_
  refine zj_getr (n := 25) (q := 5) rfl dX6_tableOf_22 zf_X6_23 rfl (by decide) (by decide) rfl ?_
  exact zj_areturn dX6_tableOf_25 rfl h
theorem jX9_isKind {x : Int32} {Q : Option Value → zM → Prop} {X : String → zM → Prop} {M : zM} (h : Q (some (.int (zb (zin x 3)))) M) : zJ yX9_isKind cX9_isKind 1 (some .boolean) rX9_isKind Q X rX9_isKind.cells rX9_isKind.slots 0 (zEnt 1 [.int x]) [] M := by
  show zJ yX9_isKind cX9_isKind 1 (some .boolean) rX9_isKind Q X 0 0 0 [some (.int x)] [] M
  refine zj_iload0 (n := 1) rfl dX9_isKind_0 ?_
  refine zj_if_lt (n := 4) (tgt := 13) rfl dX9_isKind_1 (by decide) (fun c1 => ?_) (fun c1 => ?_)
  · refine zj_iconstN_0 (n := 14) rfl dX9_isKind_13 ?_
    exact zj_ireturn dX9_isKind_14 rfl rfl (zQi h (by rw [zin_f1 c1]; rfl))
  · refine zj_iload0 (n := 5) rfl dX9_isKind_4 ?_
    refine zj_iconstN_2 (n := 6) rfl dX9_isKind_5 ?_
    refine zj_icmp_gt (n := 9) (tgt := 13) rfl dX9_isKind_6 (by decide) (fun c6 => ?_) (fun c6 => ?_)
    · refine zj_iconstN_0 (n := 14) rfl dX9_isKind_13 ?_
      exact zj_ireturn dX9_isKind_14 rfl rfl (zQi h (by rw [zin_fg (k := 2) (by decide) c6]; rfl))
    · refine zj_iconstN_1 (n := 10) rfl dX9_isKind_9 ?_
      refine zj_goto (tgt := 14) dX9_isKind_10 (by decide) ?_
      exact zj_ireturn dX9_isKind_14 rfl rfl (zQi h (by rw [zin_g (k := 2) (by decide) c1 c6]; rfl))
theorem jX9_count {v : zV} {x : Int32} {Q : Option Value → zM → Prop} {X : String → zM → Prop} {M : zM} (hC : zCl M v) (hW : zWF v) (hx1 : (a_count v x).1 = 1 → X "java/lang/IllegalArgumentException" M) (h : (a_count v x).1 = 0 → ∀ M', zQn M M' → Q (some (.int (a_count v x).2)) M') : zJ yX9_count cX9_count 2 (some .int) rX9_count Q X rX9_count.cells rX9_count.slots 0 (zEnt 2 [.ref 99, .int x]) [] M := by
  have hR := hC.1
  have h6 := hW.nN
  have h7 := hW.tN
  have h8 := hW.gN
  have h9 := hW.hN
  show zJ yX9_count cX9_count 2 (some .int) rX9_count Q X 1 6 0 [some (.ref 99), some (.int x)] [] M
  refine zj_iload1 (n := 1) rfl dX9_count_0 ?_
  refine zj_callS1 (n := 4) (a' := 1) (b' := 6) rfl dX9_count_1 zm_X9_104 (by decide) (Nat.le_of_ble_eq_true rfl) (Nat.le_of_ble_eq_true rfl) (Nat.le_of_ble_eq_true rfl) (Nat.le_of_ble_eq_true rfl) (jX9_isKind ?_)
  refine zj_callS1 (n := 7) (a' := 0) (b' := 0) rfl dX9_count_4 zm_X9_72 (by decide) (Nat.le_of_ble_eq_true rfl) (Nat.le_of_ble_eq_true rfl) (Nat.le_of_ble_eq_true rfl) (Nat.le_of_ble_eq_true rfl) (jX9_needArgument (fun c2 => ?_) (fun c2 => hx1 (by simp [a_count, c2])))
  obtain ⟨n, hn, rfl⟩ := (zin_iff (by omega)).mp c2
  refine zj_aload0 (n := 8) rfl dX9_count_7 ?_
  refine zj_getr (n := 11) (q := 0) rfl dX9_count_8 zf_X9_33 rfl (by decide) (by decide) rfl ?_
  refine zj_iload1 (n := 12) rfl dX9_count_11 ?_
  rcases (show n = 0 ∨ n = 1 ∨ n = 2 by omega) with rfl | rfl | rfl
  · refine zj_callV1 (n := 15) (a' := 0) (b' := 0) rfl dX9_count_12 zm_X9_112 (by decide) (by decide) rfl (Nat.le_of_ble_eq_true rfl) (Nat.le_of_ble_eq_true rfl) (Nat.le_of_ble_eq_true rfl) (Nat.le_of_ble_eq_true rfl) (jX6_tableOf0 ?_)
    refine zj_getiN (e := v 6) (n := 18) rfl dX9_count_15 zf_X9_95 rfl (by decide) (by decide) hR.n.1.2.2.2.1 ?_
    refine zj_ireturn dX9_count_18 rfl rfl ?_
    have h := h (by simp only [a_count, c2, if_true]) _ hC.rf
    simp only [a_count, c2, if_true, xn_at (show 0 < 2 ^ 31 by decide)] at h
    exact h
  · refine zj_callV1 (n := 15) (a' := 0) (b' := 0) rfl dX9_count_12 zm_X9_112 (by decide) (by decide) rfl (Nat.le_of_ble_eq_true rfl) (Nat.le_of_ble_eq_true rfl) (Nat.le_of_ble_eq_true rfl) (Nat.le_of_ble_eq_true rfl) (jX6_tableOf1 ?_)
    refine zj_getiN (e := v 7) (n := 18) rfl dX9_count_15 zf_X9_95 rfl (by decide) (by decide) hR.t.1.2.2.2.1 ?_
    refine zj_ireturn dX9_count_18 rfl rfl ?_
    have h := h (by simp only [a_count, c2, if_true]) _ hC.rf
    simp only [a_count, c2, if_true, xn_at (show 1 < 2 ^ 31 by decide)] at h
    exact h
  · refine zj_callV1 (n := 15) (a' := 0) (b' := 0) rfl dX9_count_12 zm_X9_112 (by decide) (by decide) rfl (Nat.le_of_ble_eq_true rfl) (Nat.le_of_ble_eq_true rfl) (Nat.le_of_ble_eq_true rfl) (Nat.le_of_ble_eq_true rfl) (jX6_tableOf2 ?_)
    refine zj_getiN (e := v 8) (n := 18) rfl dX9_count_15 zf_X9_95 rfl (by decide) (by decide) hR.g.1.2.2.2.1 ?_
    refine zj_ireturn dX9_count_18 rfl rfl ?_
    have h := h (by simp only [a_count, c2, if_true]) _ hC.rf
    simp only [a_count, c2, if_true, xn_at (show 2 < 2 ^ 31 by decide)] at h
    exact h
