/-! THE MODEL'S QUESTIONS that answer a double -/
theorem jX10_share {v : zV} {x : Int32} {Q : Option Value → zM → Prop} {X : String → zM → Prop} {M : zM} (hA : zRA M 119 v) (hW : zWF v) (hd : M.1 118 4 = nI 0) (h : ∀ M', zQm M M' → M'.1 118 0 = nI (a_share v x).1 → Q (some (.double (a_share v x).2)) M') : zJ yX10_share cX10_share 5 (some .double) rX10_share Q X rX10_share.cells rX10_share.slots 0 (zEnt 5 [.ref 118, .int x]) [] M := by
  have h6 := hW.nN
  have h7 := hW.tN
  have h8 := hW.gN
  have h9 := hW.hN
  show zJ yX10_share cX10_share 5 (some .double) rX10_share Q X 0 0 0 [some (.ref 118), some (.int x), none, none, none] [] M
  refine zj_aload0 (n := 1) rfl dX10_share_0 ?_
  refine zj_aload0 (n := 2) rfl dX10_share_1 ?_
  refine zj_iload1 (n := 3) rfl dX10_share_2 ?_
  refine zj_callV1 (n := 6) (a' := 0) (b' := 0) rfl dX10_share_3 zm_X10_401 (by decide) (by decide) rfl (Nat.le_of_ble_eq_true rfl) (Nat.le_of_ble_eq_true rfl) (Nat.le_of_ble_eq_true rfl) (Nat.le_of_ble_eq_true rfl) (jX10_isTenant hA (by omega) ?_)
  refine zj_callV1 (n := 9) (a' := 0) (b' := 0) rfl dX10_share_6 zm_X10_216 (by decide) (by decide) rfl (Nat.le_of_ble_eq_true rfl) (Nat.le_of_ble_eq_true rfl) (Nat.le_of_ble_eq_true rfl) (Nat.le_of_ble_eq_true rfl) (jX10_passesQ ?_)
  intro M1 hQ1 hF1 hL1 h118 ht1
  have hA1 := hQ1.ra hA
  have hd1 := hQ1.td hd
  refine zj_ifB_ne (n := 12) (tgt := 14) rfl dX10_share_9 (by decide) (fun c9 => ?_) (fun c9 => ?_)
  · obtain ⟨n, hn, rfl⟩ := (zin_iff (by omega)).mp c9
    refine zj_lconstN_0 (n := 15) rfl dX10_share_14 ?_
    refine zj_lstore2 (n := 16) rfl dX10_share_15 rfl (Nat.le_of_ble_eq_true rfl) ?_
    refine zj_iconstN_0 (n := 17) rfl dX10_share_16 ?_
    refine zj_istore4 (n := 19) rfl dX10_share_17 rfl (Nat.le_of_ble_eq_true rfl) ?_
    refine zFor_rule (P := fun k (_ : Unit) => zJ yX10_share cX10_share 5 (some .double) rX10_share Q X 0 0 19 [some (.ref 118), some (.int (nI n)), some (.long (vball v k)), none, some (.int (nI k))] [] M1) (n := v 7) (f := fun _ s => s) (s0 := ()) ?_ ?_
    · intro k _ hk9 hk
      refine zj_iload4 (n := 21) rfl dX10_share_19 ?_
      refine zj_aload0 (n := 22) rfl dX10_share_21 ?_
      refine zj_getr (n := 25) (q := 119) rfl dX10_share_22 zf_X10_17 rfl (by decide) (by decide) rfl ?_
      refine zj_bipushN (v := 7) (n := 27) rfl dX10_share_25 (by decide) ?_
      refine zj_ialoadN (e := v 7) (n := 28) rfl dX10_share_27 (by decide) (by decide) (by rw [show zLen 119 = 698 from rfl]; omega) (hA1.2.2 _ (by omega)) ?_
      refine zj_icmpN_ge (n := 31) (tgt := 48) rfl dX10_share_28 (by decide) (by omega) (by omega) (fun c28 => by omega) (fun c28 => ?_)
      refine zj_lload2 (n := 32) rfl dX10_share_31 ?_
      refine zj_aload0 (n := 33) rfl dX10_share_32 ?_
      refine zj_iload4 (n := 35) rfl dX10_share_33 ?_
      refine zj_iconstN_3 (n := 36) rfl dX10_share_35 ?_
      refine zj_callV2 (n := 39) (a' := 0) (b' := 0) rfl dX10_share_36 zm_X10_167 (by decide) (by decide) rfl (Nat.le_of_ble_eq_true rfl) (Nat.le_of_ble_eq_true rfl) (Nat.le_of_ble_eq_true rfl) (Nat.le_of_ble_eq_true rfl) (jX10_tenantValue (c := 3) hA1 (by omega) ?_)
      -- 
      refine zj_i2l (n := 40) rfl dX10_share_39 ?_
      refine zj_ladd (n := 41) rfl dX10_share_40 ?_
      refine zj_lstore2 (n := 42) rfl dX10_share_41 rfl (Nat.le_of_ble_eq_true rfl) ?_
      refine zj_iincN4 (n := 45) rfl dX10_share_42 rfl (Nat.le_of_ble_eq_true rfl) ?_
      refine zj_goto (tgt := 19) dX10_share_45 (by decide) ?_
      exact hk
    · skip
      refine zj_iload4 (n := 21) rfl dX10_share_19 ?_
      refine zj_aload0 (n := 22) rfl dX10_share_21 ?_
      refine zj_getr (n := 25) (q := 119) rfl dX10_share_22 zf_X10_17 rfl (by decide) (by decide) rfl ?_
      refine zj_bipushN (v := 7) (n := 27) rfl dX10_share_25 (by decide) ?_
      refine zj_ialoadN (e := v 7) (n := 28) rfl dX10_share_27 (by decide) (by decide) (by rw [show zLen 119 = 698 from rfl]; omega) (hA1.2.2 _ (by omega)) ?_
      refine zj_icmpN_ge (n := 31) (tgt := 48) rfl dX10_share_28 (by decide) (by omega) (by omega) (fun c28 => ?_) (fun c28 => by omega)
      refine zj_lload2 (n := 49) rfl dX10_share_48 ?_
      refine zj_lconstN_0 (n := 50) rfl dX10_share_49 ?_
      refine zj_lcmp (n := 51) rfl dX10_share_50 ?_
      refine zj_if_ne (n := 54) (tgt := 58) rfl dX10_share_51 (by decide) (fun c51 => ?_) (fun c51 => ?_)
      · refine zj_aload0 (n := 59) rfl dX10_share_58 ?_
        refine zj_iload1 (n := 60) rfl dX10_share_59 ?_
        refine zj_iconstN_3 (n := 61) rfl dX10_share_60 ?_
        refine zj_callV2 (n := 64) (a' := 0) (b' := 0) rfl dX10_share_61 zm_X10_167 (by decide) (by decide) rfl (Nat.le_of_ble_eq_true rfl) (Nat.le_of_ble_eq_true rfl) (Nat.le_of_ble_eq_true rfl) (Nat.le_of_ble_eq_true rfl) (jX10_tenantValue (c := 3) hA1 (by omega) ?_)
        -- 
        refine zj_i2d (n := 65) rfl dX10_share_64 ?_
        refine zj_lload2 (n := 66) rfl dX10_share_65 ?_
        refine zj_l2d (n := 67) rfl dX10_share_66 ?_
        refine zj_ddiv (n := 68) rfl dX10_share_67 (zdiv_il (zlne (fun q => c51 (zlc0.mpr q)))) ?_
        refine zj_dreturn dX10_share_68 rfl ?_
        simp only [a_share, c9, if_true, xn_at (show n < 2 ^ 31 by omega)] at h
        have h := h M1 hQ1 (by rw [ht1, c9]; rfl)
        rw [if_neg (fun q => c51 (zlc0.mpr q))] at h
        exact h
      · refine zj_dconst_0 (n := 55) rfl dX10_share_54 ?_
        refine zj_goto (tgt := 68) dX10_share_55 (by decide) ?_
        refine zj_dreturn dX10_share_68 rfl ?_
        simp only [a_share, c9, if_true, xn_at (show n < 2 ^ 31 by omega)] at h
        have h := h M1 hQ1 (by rw [ht1, c9]; rfl)
        rw [if_pos (zlc0.mp c51)] at h
        exact h
  · refine zj_dconst_0 (n := 13) rfl dX10_share_12 ?_
    refine zj_dreturn dX10_share_13 rfl ?_
    simp only [a_share, c9, if_false, Bool.false_eq_true] at h
    exact h M1 hQ1 (by rw [ht1, c9]; rfl)
theorem jX10_meanPrice {v : zV} {x : Int32} {Q : Option Value → zM → Prop} {X : String → zM → Prop} {M : zM} (hA : zRA M 119 v) (hW : zWF v) (hd : M.1 118 4 = nI 0) (h : ∀ M', zQm M M' → M'.1 118 0 = nI (a_mean v x).1 → Q (some (.double (a_mean v x).2)) M') : zJ yX10_meanPrice cX10_meanPrice 5 (some .double) rX10_meanPrice Q X rX10_meanPrice.cells rX10_meanPrice.slots 0 (zEnt 5 [.ref 118, .int x]) [] M := by
  have h6 := hW.nN
  have h7 := hW.tN
  have h8 := hW.gN
  have h9 := hW.hN
  show zJ yX10_meanPrice cX10_meanPrice 5 (some .double) rX10_meanPrice Q X 0 0 0 [some (.ref 118), some (.int x), none, none, none] [] M
  refine zj_aload0 (n := 1) rfl dX10_meanPrice_0 ?_
  refine zj_iload1 (n := 2) rfl dX10_meanPrice_1 ?_
  refine zj_i2l (n := 3) rfl dX10_meanPrice_2 ?_
  refine zj_lconstN_1 (n := 4) rfl dX10_meanPrice_3 ?_
  refine zj_ldc2N (v := 40) (n := 7) rfl dX10_meanPrice_4 zc_X10_468 ?_
  refine zj_callS3 (n := 10) (a' := 0) (b' := 0) rfl dX10_meanPrice_7 zm_X10_62 (by decide) (Nat.le_of_ble_eq_true rfl) (Nat.le_of_ble_eq_true rfl) (Nat.le_of_ble_eq_true rfl) (Nat.le_of_ble_eq_true rfl) (jX10_inC (by decide) (by decide) ?_)
  refine zj_aload0 (n := 11) rfl dX10_meanPrice_10 ?_
  refine zj_getr (n := 14) (q := 119) rfl dX10_meanPrice_11 zf_X10_17 rfl (by decide) (by decide) rfl ?_
  refine zj_bipushN (v := 9) (n := 16) rfl dX10_meanPrice_14 (by decide) ?_
  refine zj_ialoadN (e := v 9) (n := 17) rfl dX10_meanPrice_16 (by decide) (by decide) (by rw [show zLen 119 = 698 from rfl]; omega) (hA.2.2 _ (by omega)) ?_
  refine zj_ifN_le (n := 20) (tgt := 24) rfl dX10_meanPrice_17 (by decide) (by omega) (fun c17 => ?_) (fun c17 => ?_)
  · refine zj_iconstN_0 (n := 25) rfl dX10_meanPrice_24 ?_
    rw [show nI 0 = zb (decide (0 < v 9)) from by rw [decide_eq_false (by omega)]; rfl]
    refine zj_callV2 (n := 28) (a' := 0) (b' := 0) rfl dX10_meanPrice_25 zm_X10_395 (by decide) (by decide) rfl (Nat.le_of_ble_eq_true rfl) (Nat.le_of_ble_eq_true rfl) (Nat.le_of_ble_eq_true rfl) (Nat.le_of_ble_eq_true rfl) (jX10_passes2Q ?_)
    intro M1 hQ1 hF1 hL1 h118 ht1
    have hA1 := hQ1.ra hA
    have hd1 := hQ1.td hd
    refine zj_ifB_ne (n := 31) (tgt := 33) rfl dX10_meanPrice_28 (by decide) (fun c28 => absurd c28 (by rw [decide_eq_false (show ¬ 0 < v 9 by omega), Bool.and_false]; simp)) (fun c28 => ?_)
    refine zj_dconst_0 (n := 32) rfl dX10_meanPrice_31 ?_
    refine zj_dreturn dX10_meanPrice_32 rfl ?_
    cases d1 : zin2 x 1 40 with
    | false =>
      simp only [a_mean, d1, if_false, Bool.false_eq_true] at h
      exact h M1 hQ1 (by rw [ht1, d1]; rfl)
    | true =>
      have h0 : v 9 = 0 := by
        by_cases q : v 9 = 0
        · exact q
        · exfalso; rw [d1, decide_eq_true (show 0 < v 9 by omega)] at c28; exact absurd c28 (by simp)
      simp only [a_mean, d1, if_true] at h
      rw [if_pos h0] at h
      exact h M1 hQ1 (by rw [ht1, d1, decide_eq_false (show ¬ 0 < v 9 by omega)]; rfl)
  · refine zj_iconstN_1 (n := 21) rfl dX10_meanPrice_20 ?_
    refine zj_goto (tgt := 25) dX10_meanPrice_21 (by decide) ?_
    rw [show nI 1 = zb (decide (0 < v 9)) from by rw [decide_eq_true (by omega)]; rfl]
    refine zj_callV2 (n := 28) (a' := 0) (b' := 0) rfl dX10_meanPrice_25 zm_X10_395 (by decide) (by decide) rfl (Nat.le_of_ble_eq_true rfl) (Nat.le_of_ble_eq_true rfl) (Nat.le_of_ble_eq_true rfl) (Nat.le_of_ble_eq_true rfl) (jX10_passes2Q ?_)
    intro M1 hQ1 hF1 hL1 h118 ht1
    have hA1 := hQ1.ra hA
    have hd1 := hQ1.td hd
    refine zj_ifB_ne (n := 31) (tgt := 33) rfl dX10_meanPrice_28 (by decide) (fun c28 => ?_) (fun c28 => ?_)
    · have h0 : 0 < v 9 := by omega
      have d2 : zin2 x 1 40 = true := by rw [decide_eq_true h0, Bool.and_true] at c28; exact c28
      obtain ⟨n, hn1, hn2, rfl⟩ := (zin2_iff (by decide) (by decide)).mp d2
      refine zj_iload1 (n := 34) rfl dX10_meanPrice_33 ?_
      refine zj_aload0 (n := 35) rfl dX10_meanPrice_34 ?_
      refine zj_getr (n := 38) (q := 119) rfl dX10_meanPrice_35 zf_X10_17 rfl (by decide) (by decide) rfl ?_
      refine zj_bipushN (v := 9) (n := 40) rfl dX10_meanPrice_38 (by decide) ?_
      refine zj_ialoadN (e := v 9) (n := 41) rfl dX10_meanPrice_40 (by decide) (by decide) (by rw [show zLen 119 = 698 from rfl]; omega) (hA1.2.2 _ (by omega)) ?_
      refine zj_iminN (n := 44) rfl dX10_meanPrice_41 zm_X10_170 (by decide) (Nat.le_of_ble_eq_true rfl) (by omega) (by omega) ?_
      refine zj_istore2 (n := 45) rfl dX10_meanPrice_44 rfl (Nat.le_of_ble_eq_true rfl) ?_
      refine zj_iconstN_0 (n := 46) rfl dX10_meanPrice_45 ?_
      refine zj_istore3 (n := 47) rfl dX10_meanPrice_46 rfl (Nat.le_of_ble_eq_true rfl) ?_
      refine zj_aload0 (n := 48) rfl dX10_meanPrice_47 ?_
      refine zj_getr (n := 51) (q := 119) rfl dX10_meanPrice_48 zf_X10_17 rfl (by decide) (by decide) rfl ?_
      refine zj_bipushN (v := 9) (n := 53) rfl dX10_meanPrice_51 (by decide) ?_
      refine zj_ialoadN (e := v 9) (n := 54) rfl dX10_meanPrice_53 (by decide) (by decide) (by rw [show zLen 119 = 698 from rfl]; omega) (hA1.2.2 _ (by omega)) ?_
      refine zj_iload2 (n := 55) rfl dX10_meanPrice_54 ?_
      refine zj_isubN (n := 56) rfl dX10_meanPrice_55 (by omega) ?_
      refine zj_istore4 (n := 58) rfl dX10_meanPrice_56 rfl (Nat.le_of_ble_eq_true rfl) ?_
      refine zFor_rule (P := fun k (_ : Unit) => zJ yX10_meanPrice cX10_meanPrice 5 (some .double) rX10_meanPrice Q X 0 0 58 [some (.ref 118), some (.int (nI n)), some (.int (nI (min n (v 9)))), some (.int (nI (vmsum v (v 9 - min n (v 9)) k))), some (.int (nI (v 9 - min n (v 9) + k)))] [] M1) (n := min n (v 9)) (f := fun _ s => s) (s0 := ()) ?_ ?_
      · intro k _ hk9 hk
        have hms := zmsum_le hW (a := v 9 - min n (v 9)) k (by omega)
        refine zj_iload4 (n := 60) rfl dX10_meanPrice_58 ?_
        refine zj_aload0 (n := 61) rfl dX10_meanPrice_60 ?_
        refine zj_getr (n := 64) (q := 119) rfl dX10_meanPrice_61 zf_X10_17 rfl (by decide) (by decide) rfl ?_
        refine zj_bipushN (v := 9) (n := 66) rfl dX10_meanPrice_64 (by decide) ?_
        refine zj_ialoadN (e := v 9) (n := 67) rfl dX10_meanPrice_66 (by decide) (by decide) (by rw [show zLen 119 = 698 from rfl]; omega) (hA1.2.2 _ (by omega)) ?_
        refine zj_icmpN_ge (n := 70) (tgt := 86) rfl dX10_meanPrice_67 (by decide) (by omega) (by omega) (fun c67 => by omega) (fun c67 => ?_)
        refine zj_iload3 (n := 71) rfl dX10_meanPrice_70 ?_
        refine zj_aload0 (n := 72) rfl dX10_meanPrice_71 ?_
        refine zj_iload4 (n := 74) rfl dX10_meanPrice_72 ?_
        refine zj_iconstN_2 (n := 75) rfl dX10_meanPrice_74 ?_
        refine zj_callV2 (n := 78) (a' := 0) (b' := 0) rfl dX10_meanPrice_75 zm_X10_465 (by decide) (by decide) rfl (Nat.le_of_ble_eq_true rfl) (Nat.le_of_ble_eq_true rfl) (Nat.le_of_ble_eq_true rfl) (Nat.le_of_ble_eq_true rfl) (jX10_recorded hA1 (by omega) ?_)
        refine zj_iaddN (n := 79) rfl dX10_meanPrice_78 ?_
        refine zj_istore3 (n := 80) rfl dX10_meanPrice_79 rfl (Nat.le_of_ble_eq_true rfl) ?_
        refine zj_iincN4 (n := 83) rfl dX10_meanPrice_80 rfl (Nat.le_of_ble_eq_true rfl) ?_
        refine zj_goto (tgt := 58) dX10_meanPrice_83 (by decide) ?_
        exact hk
      · skip
        have hms := zmsum_le hW (a := v 9 - min n (v 9)) (min n (v 9)) (by omega)
        refine zj_iload4 (n := 60) rfl dX10_meanPrice_58 ?_
        refine zj_aload0 (n := 61) rfl dX10_meanPrice_60 ?_
        refine zj_getr (n := 64) (q := 119) rfl dX10_meanPrice_61 zf_X10_17 rfl (by decide) (by decide) rfl ?_
        refine zj_bipushN (v := 9) (n := 66) rfl dX10_meanPrice_64 (by decide) ?_
        refine zj_ialoadN (e := v 9) (n := 67) rfl dX10_meanPrice_66 (by decide) (by decide) (by rw [show zLen 119 = 698 from rfl]; omega) (hA1.2.2 _ (by omega)) ?_
        refine zj_icmpN_ge (n := 70) (tgt := 86) rfl dX10_meanPrice_67 (by decide) (by omega) (by omega) (fun c67 => ?_) (fun c67 => by omega)
        refine zj_iload3 (n := 87) rfl dX10_meanPrice_86 ?_
        refine zj_i2d (n := 88) rfl dX10_meanPrice_87 ?_
        refine zj_iload2 (n := 89) rfl dX10_meanPrice_88 ?_
        refine zj_i2d (n := 90) rfl dX10_meanPrice_89 ?_
        refine zj_ddiv (n := 91) rfl dX10_meanPrice_90 (zdiv_ii (by rw [nI_toInt (by omega)]; omega)) ?_
        refine zj_dreturn dX10_meanPrice_91 rfl ?_
        have e : a_mean v (nI n) = (0, FP.ddiv (FP.i2d (nI (vmsum v (v 9 - min n (v 9)) (min n (v 9))))) (FP.i2d (nI (min n (v 9))))) := by
          simp only [a_mean, d2, if_true, xn_at (show n < 2 ^ 31 by omega)]
          rw [if_neg (by omega)]
        rw [e] at h
        exact h M1 hQ1 (by rw [ht1, d2, decide_eq_true h0]; rfl)
    · refine zj_dconst_0 (n := 32) rfl dX10_meanPrice_31 ?_
      refine zj_dreturn dX10_meanPrice_32 rfl ?_
      cases d1 : zin2 x 1 40 with
      | false =>
        simp only [a_mean, d1, if_false, Bool.false_eq_true] at h
        exact h M1 hQ1 (by rw [ht1, d1]; rfl)
      | true =>
        have h0 : v 9 = 0 := by
          by_cases q : v 9 = 0
          · exact q
          · exfalso; rw [d1, decide_eq_true (show 0 < v 9 by omega)] at c28; exact absurd c28 (by simp)
        simp only [a_mean, d1, if_true] at h
        rw [if_pos h0] at h
        exact h M1 hQ1 (by rw [ht1, d1, decide_eq_false (show ¬ 0 < v 9 by omega)]; rfl)
theorem jX10_expectedLoss {v : zV} {Q : Option Value → zM → Prop} {X : String → zM → Prop} {M : zM} (hA : zRA M 119 v) (hW : zWF v) (hd : M.1 118 4 = nI 0) (h : ∀ M', zQm M M' → M'.1 118 0 = nI (a_xloss v).1 → Q (some (.double (a_xloss v).2)) M') : zJ yX10_expectedLoss cX10_expectedLoss 4 (some .double) rX10_expectedLoss Q X rX10_expectedLoss.cells rX10_expectedLoss.slots 0 (zEnt 4 [.ref 118]) [] M := by
  have h6 := hW.nN
  have h7 := hW.tN
  have h8 := hW.gN
  have h9 := hW.hN
  show zJ yX10_expectedLoss cX10_expectedLoss 4 (some .double) rX10_expectedLoss Q X 0 0 0 [some (.ref 118), none, none, none] [] M
  refine zj_aload0 (n := 1) rfl dX10_expectedLoss_0 ?_
  refine zj_iconstN_0 (n := 2) rfl dX10_expectedLoss_1 ?_
  refine zj_puti (n := 5) rfl dX10_expectedLoss_2 zp_X10_3 rfl (by decide) (by decide) ?_
  refine zj_gen (fun M1 => zQm M M1 ∧ M1.1 118 0 = nI 0 ∧ M1.2 = M.2) ⟨zQm.thr, by dsimp only; exact zU_eq, rfl⟩ (fun M1 h1 => ?_)
  obtain ⟨hQ1, ht1, hL1⟩ := h1
  have hA1 := hQ1.ra hA
  have hd1 := hQ1.td hd
  refine zj_dconst_0 (n := 6) rfl dX10_expectedLoss_5 ?_
  refine zj_dstore1 (n := 7) rfl dX10_expectedLoss_6 rfl (Nat.le_of_ble_eq_true rfl) ?_
  refine zj_iconstN_0 (n := 8) rfl dX10_expectedLoss_7 ?_
  refine zj_istore3 (n := 9) rfl dX10_expectedLoss_8 rfl (Nat.le_of_ble_eq_true rfl) ?_
  refine zFor_rule (P := fun k (_ : Unit) => ∀ L, (∀ c, c ≠ 121 → L c = M1.2.1 c) → zJ yX10_expectedLoss cX10_expectedLoss 4 (some .double) rX10_expectedLoss Q X 0 0 9 [some (.ref 118), some (.double (vxl v k)), none, some (.int (nI k))] [] (M1.1, L, M1.2.2)) (n := v 8) (f := fun _ s => s) (s0 := ()) ?_ ?_ M1.2.1 (fun _ _ => rfl)
  · intro k _ hk9 hk L hL
    have hg5 : v (268 + 23 * k + 5) ≤ 9999 := (hW.grp hk9).2.2.2.2.2.2.2.2.2.1
    have hvl := vloss_le (v := v) (d := 0) (hW.risk hk9)
    refine zj_iload3 (n := 10) rfl dX10_expectedLoss_9 ?_
    refine zj_aload0 (n := 11) rfl dX10_expectedLoss_10 ?_
    refine zj_getr (n := 14) (q := 119) rfl dX10_expectedLoss_11 zf_X10_17 rfl (by decide) (by decide) rfl ?_
    refine zj_bipushN (v := 8) (n := 16) rfl dX10_expectedLoss_14 (by decide) ?_
    refine zj_ialoadN (e := v 8) (n := 17) rfl dX10_expectedLoss_16 (by decide) (by decide) (by rw [show zLen 119 = 698 from rfl]; omega) (hA1.2.2 _ (by omega)) ?_
    refine zj_icmpN_ge (n := 20) (tgt := 48) rfl dX10_expectedLoss_17 (by decide) (by omega) (by omega) (fun c17 => by omega) (fun c17 => ?_)
    refine zj_dload1 (n := 21) rfl dX10_expectedLoss_20 ?_
    refine zj_aload0 (n := 22) rfl dX10_expectedLoss_21 ?_
    refine zj_iload3 (n := 23) rfl dX10_expectedLoss_22 ?_
    refine zj_iconstN_5 (n := 24) rfl dX10_expectedLoss_23 ?_
    refine zj_callV2 (n := 27) (a' := 0) (b' := 0) rfl dX10_expectedLoss_24 zm_X10_66 (by decide) (by decide) rfl (Nat.le_of_ble_eq_true rfl) (Nat.le_of_ble_eq_true rfl) (Nat.le_of_ble_eq_true rfl) (Nat.le_of_ble_eq_true rfl) (jX10_groupValue (c := 5) (show zRA (M1.1, L, M1.2.2) 119 v from hA1) (by omega) ?_)
    refine zj_i2lN (n := 28) rfl dX10_expectedLoss_27 (by omega) ?_
    refine zj_aload0 (n := 29) rfl dX10_expectedLoss_28 ?_
    refine zj_iload3 (n := 30) rfl dX10_expectedLoss_29 ?_
    refine zj_callV1 (n := 33) (a' := 0) (b' := 0) rfl dX10_expectedLoss_30 zm_X10_130 (by decide) (by decide) rfl (Nat.le_of_ble_eq_true rfl) (Nat.le_of_ble_eq_true rfl) (Nat.le_of_ble_eq_true rfl) (Nat.le_of_ble_eq_true rfl) (jX10_lossOf (show zRA (M1.1, L, M1.2.2) 119 v from hA1) hW hd1 (by decide) hk9 ?_)
    intro L2 hL2
    refine zj_i2lN (n := 34) rfl dX10_expectedLoss_33 (by omega) ?_
    refine zj_lmulN (n := 35) rfl dX10_expectedLoss_34 ?_
    refine zj_l2d (n := 36) rfl dX10_expectedLoss_35 ?_
    refine zj_ldc2d (n := 39) rfl dX10_expectedLoss_36 zc_X10_414 ?_
    refine zj_ddiv (n := 40) rfl dX10_expectedLoss_39 (show vf_n64 (FP.ddiv _ zE9) from (zvar_n (by have h1 : v (268 + 23 * k + 5) * vloss v 0 k ≤ 9999 * 1000000000 := hW.offer hk9; omega)).n) ?_
    refine zj_dadd (n := 41) rfl dX10_expectedLoss_40 ((vxl_nn hW k (by omega)).add (show zNN (FP.ddiv _ zE9) from (zvar_n (by have h1 : v (268 + 23 * k + 5) * vloss v 0 k ≤ 9999 * 1000000000 := hW.offer hk9; omega)))).n ?_
    refine zj_dstore1 (n := 42) rfl dX10_expectedLoss_41 rfl (Nat.le_of_ble_eq_true rfl) ?_
    refine zj_iincN3 (n := 45) rfl dX10_expectedLoss_42 rfl (Nat.le_of_ble_eq_true rfl) ?_
    refine zj_goto (tgt := 9) dX10_expectedLoss_45 (by decide) ?_
    exact hk L2 (fun c hc => (hL2 c hc).trans (hL c hc))
  · intro L hL
    refine zj_iload3 (n := 10) rfl dX10_expectedLoss_9 ?_
    refine zj_aload0 (n := 11) rfl dX10_expectedLoss_10 ?_
    refine zj_getr (n := 14) (q := 119) rfl dX10_expectedLoss_11 zf_X10_17 rfl (by decide) (by decide) rfl ?_
    refine zj_bipushN (v := 8) (n := 16) rfl dX10_expectedLoss_14 (by decide) ?_
    refine zj_ialoadN (e := v 8) (n := 17) rfl dX10_expectedLoss_16 (by decide) (by decide) (by rw [show zLen 119 = 698 from rfl]; omega) (hA1.2.2 _ (by omega)) ?_
    refine zj_icmpN_ge (n := 20) (tgt := 48) rfl dX10_expectedLoss_17 (by decide) (by omega) (by omega) (fun c17 => ?_) (fun c17 => by omega)
    refine zj_dload1 (n := 49) rfl dX10_expectedLoss_48 ?_
    exact zj_dreturn dX10_expectedLoss_49 rfl (h (M1.1, L, M1.2.2) (hQ1.tr ⟨fun _ _ _ => rfl, fun c j h1 _ => by dsimp only; rw [hL c h1], rfl⟩) ht1)
