/-! THE CLASS: input and output -/
def a_append (n : Nat) : zA := if n + 20 ≤ 1400 then (0, nI (n + 20)) else (1, nI 0)
def a_trunc (n : Nat) (x : Int32) : zA := if zin x (n + 1) then (0, nI 0) else (1, nI 0)
def a_outB (s : Nat × (Nat → Nat)) (x : Int32) : zA := if zin x s.1 then (0, nI (s.2 (xn x))) else (1, nI 0)
theorem jX9_append {n : Nat} {B : Nat → Nat} {x1 x2 x3 x4 x5 : Int32} {Q : Option Value → zM → Prop} {X : String → zM → Prop} {M : zM} (hB : zBy M 100 n B) (hx1 : (a_append n).1 = 1 → X "java/lang/IllegalStateException" M) (h : (a_append n).1 = 0 → ∀ M', zOf 100 M M' → zBy M' 100 (n + 20) (tapp B n x1 x2 x3 x4 x5) → Q (some (.int (a_append n).2)) M') : zJ yX9_append cX9_append 6 (some .int) rX9_append Q X rX9_append.cells rX9_append.slots 0 (zEnt 6 [.ref 99, .int x1, .int x2, .int x3, .int x4, .int x5]) [] M := by
  have hl : n ≤ 1400 := hB.2.2.1
  show zJ yX9_append cX9_append 6 (some .int) rX9_append Q X 1 6 0 [some (.ref 99), some (.int x1), some (.int x2), some (.int x3), some (.int x4), some (.int x5)] [] M
  refine zj_aload0 (n := 1) rfl dX9_append_0 ?_
  refine zj_getr (n := 4) (q := 100) rfl dX9_append_1 zf_X9_14 rfl (by decide) rfl rfl ?_
  refine zj_getiN (e := n) (n := 7) rfl dX9_append_4 zf_X9_58 rfl (by decide) (by decide) hB.2.1 ?_
  refine zj_bipushN (v := 20) (n := 9) rfl dX9_append_7 (by decide) ?_
  refine zj_iaddN (n := 10) rfl dX9_append_9 ?_
  refine zj_sipushN (v := 1400) (n := 13) rfl dX9_append_10 (by decide) ?_
  refine zj_icmpN_le (n := 16) (tgt := 26) rfl dX9_append_13 (by decide) (by omega) (by omega) (fun c13 => ?_) (fun c13 => ?_)
  · refine zj_aload0 (n := 27) rfl dX9_append_26 ?_
    refine zj_getr (n := 30) (q := 100) rfl dX9_append_27 zf_X9_14 rfl (by decide) rfl rfl ?_
    refine zj_iload1 (n := 31) rfl dX9_append_30 ?_
    refine zj_callV1 (n := 34) (a' := 1) (b' := 6) rfl dX9_append_31 zm_X9_69 (by decide) (by decide) rfl (Nat.le_of_ble_eq_true rfl) (Nat.le_of_ble_eq_true rfl) (Nat.le_of_ble_eq_true rfl) (Nat.le_of_ble_eq_true rfl) (jX1_addFour hB (by rw [show zLen (100 + 1) = 1400 from rfl]; omega) ?_)
    intro M1 hB1 hF1 hs1
    refine zj_aload0 (n := 35) rfl dX9_append_34 ?_
    refine zj_getr (n := 38) (q := 100) rfl dX9_append_35 zf_X9_14 rfl (by decide) rfl rfl ?_
    refine zj_iload2 (n := 39) rfl dX9_append_38 ?_
    refine zj_callV1 (n := 42) (a' := 1) (b' := 6) rfl dX9_append_39 zm_X9_69 (by decide) (by decide) rfl (Nat.le_of_ble_eq_true rfl) (Nat.le_of_ble_eq_true rfl) (Nat.le_of_ble_eq_true rfl) (Nat.le_of_ble_eq_true rfl) (jX1_addFour hB1 (by rw [show zLen (100 + 1) = 1400 from rfl]; omega) ?_)
    intro M2 hB2 hF2 hs2
    refine zj_aload0 (n := 43) rfl dX9_append_42 ?_
    refine zj_getr (n := 46) (q := 100) rfl dX9_append_43 zf_X9_14 rfl (by decide) rfl rfl ?_
    refine zj_iload3 (n := 47) rfl dX9_append_46 ?_
    refine zj_callV1 (n := 50) (a' := 1) (b' := 6) rfl dX9_append_47 zm_X9_69 (by decide) (by decide) rfl (Nat.le_of_ble_eq_true rfl) (Nat.le_of_ble_eq_true rfl) (Nat.le_of_ble_eq_true rfl) (Nat.le_of_ble_eq_true rfl) (jX1_addFour hB2 (by rw [show zLen (100 + 1) = 1400 from rfl]; omega) ?_)
    intro M3 hB3 hF3 hs3
    refine zj_aload0 (n := 51) rfl dX9_append_50 ?_
    refine zj_getr (n := 54) (q := 100) rfl dX9_append_51 zf_X9_14 rfl (by decide) rfl rfl ?_
    refine zj_iload4 (n := 56) rfl dX9_append_54 ?_
    refine zj_callV1 (n := 59) (a' := 1) (b' := 6) rfl dX9_append_56 zm_X9_69 (by decide) (by decide) rfl (Nat.le_of_ble_eq_true rfl) (Nat.le_of_ble_eq_true rfl) (Nat.le_of_ble_eq_true rfl) (Nat.le_of_ble_eq_true rfl) (jX1_addFour hB3 (by rw [show zLen (100 + 1) = 1400 from rfl]; omega) ?_)
    intro M4 hB4 hF4 hs4
    refine zj_aload0 (n := 60) rfl dX9_append_59 ?_
    refine zj_getr (n := 63) (q := 100) rfl dX9_append_60 zf_X9_14 rfl (by decide) rfl rfl ?_
    refine zj_iload5 (n := 65) rfl dX9_append_63 ?_
    refine zj_callV1 (n := 68) (a' := 1) (b' := 6) rfl dX9_append_65 zm_X9_69 (by decide) (by decide) rfl (Nat.le_of_ble_eq_true rfl) (Nat.le_of_ble_eq_true rfl) (Nat.le_of_ble_eq_true rfl) (Nat.le_of_ble_eq_true rfl) (jX1_addFour hB4 (by rw [show zLen (100 + 1) = 1400 from rfl]; omega) ?_)
    intro M5 hB5 hF5 hs5
    refine zj_aload0 (n := 69) rfl dX9_append_68 ?_
    refine zj_getr (n := 72) (q := 100) rfl dX9_append_69 zf_X9_14 rfl (by decide) rfl rfl ?_
    refine zj_getiN (e := n + 4 + 4 + 4 + 4 + 4) (n := 75) rfl dX9_append_72 zf_X9_58 rfl (by decide) (by decide) hB5.2.1 ?_
    refine zj_ireturn dX9_append_75 rfl rfl ?_
    have e : a_append n = (0, nI (n + 4 + 4 + 4 + 4 + 4)) := if_pos (by omega)
    rw [e] at h
    exact h rfl M5 (zOf.tr ⟨hF1, hs1⟩ (zOf.tr ⟨hF2, hs2⟩ (zOf.tr ⟨hF3, hs3⟩ (zOf.tr ⟨hF4, hs4⟩ ⟨hF5, hs5⟩)))) hB5
  · exact zj_throwS (i9 := 0) (text := "the input buffer would hold more than 1400 bytes") (by decide) (by decide) rfl zt_X9_append_a zt_X9_append_b ⟨by decide, rfl⟩ zt_X9_append_c zt_X9_append_d dX9_append_16 dX9_append_19 dX9_append_20 dX9_append_22 dX9_append_25 (by decide) (by decide) (by decide) (by decide) (hx1 (by unfold a_append; rw [if_neg (by omega)]))
theorem jX9_truncate {n : Nat} {B : Nat → Nat} {x : Int32} {Q : Option Value → zM → Prop} {X : String → zM → Prop} {M : zM} (hB : zBy M 100 n B) (hx1 : (a_trunc n x).1 = 1 → X "java/lang/IllegalArgumentException" M) (h : (a_trunc n x).1 = 0 → ∀ M', zOf 100 M M' → xn x ≤ n → zBy M' 100 (xn x) B → Q none M') : zJ yX9_truncate cX9_truncate 2 none rX9_truncate Q X rX9_truncate.cells rX9_truncate.slots 0 (zEnt 2 [.ref 99, .int x]) [] M := by
  have hl : n ≤ 1400 := hB.2.2.1
  show zJ yX9_truncate cX9_truncate 2 none rX9_truncate Q X 1 6 0 [some (.ref 99), some (.int x)] [] M
  refine zj_iload1 (n := 1) rfl dX9_truncate_0 ?_
  refine zj_if_lt (n := 4) (tgt := 19) rfl dX9_truncate_1 (by decide) (fun c1 => ?_) (fun c1 => ?_)
  · refine zj_iconstN_0 (n := 20) rfl dX9_truncate_19 ?_
    refine zj_callS1 (n := 23) (a' := 0) (b' := 0) rfl dX9_truncate_20 zm_X9_72 (by decide) (Nat.le_of_ble_eq_true rfl) (Nat.le_of_ble_eq_true rfl) (Nat.le_of_ble_eq_true rfl) (Nat.le_of_ble_eq_true rfl) (jX9_needArgument (p := false) (fun q => by cases q) (fun _ => hx1 (by unfold a_trunc; rw [zin_f1 c1]; rfl)))
  · refine zj_iload1 (n := 5) rfl dX9_truncate_4 ?_
    refine zj_aload0 (n := 6) rfl dX9_truncate_5 ?_
    refine zj_getr (n := 9) (q := 100) rfl dX9_truncate_6 zf_X9_14 rfl (by decide) rfl rfl ?_
    refine zj_getiN (e := n) (n := 12) rfl dX9_truncate_9 zf_X9_58 rfl (by decide) (by decide) hB.2.1 ?_
    refine zj_icmp_gt (n := 15) (tgt := 19) rfl dX9_truncate_12 (by decide) (fun c12 => ?_) (fun c12 => ?_)
    · refine zj_iconstN_0 (n := 20) rfl dX9_truncate_19 ?_
      refine zj_callS1 (n := 23) (a' := 0) (b' := 0) rfl dX9_truncate_20 zm_X9_72 (by decide) (Nat.le_of_ble_eq_true rfl) (Nat.le_of_ble_eq_true rfl) (Nat.le_of_ble_eq_true rfl) (Nat.le_of_ble_eq_true rfl) (jX9_needArgument (p := false) (fun q => by cases q) (fun _ => hx1 (by unfold a_trunc; rw [zin_fg (by omega) c12]; rfl)))
    · refine zj_iconstN_1 (n := 16) rfl dX9_truncate_15 ?_
      refine zj_goto (tgt := 20) dX9_truncate_16 (by decide) ?_
      refine zj_callS1 (n := 23) (a' := 0) (b' := 0) rfl dX9_truncate_20 zm_X9_72 (by decide) (Nat.le_of_ble_eq_true rfl) (Nat.le_of_ble_eq_true rfl) (Nat.le_of_ble_eq_true rfl) (Nat.le_of_ble_eq_true rfl) (jX9_needArgument (p := true) (fun _ => ?_) (fun q => by cases q))
      have c2 : zin x (n + 1) = true := zin_g (by omega) c1 c12
      obtain ⟨k, hk, rfl⟩ := (zin_iff (by omega)).mp c2
      refine zj_aload0 (n := 24) rfl dX9_truncate_23 ?_
      refine zj_getr (n := 27) (q := 100) rfl dX9_truncate_24 zf_X9_14 rfl (by decide) rfl rfl ?_
      refine zj_iload1 (n := 28) rfl dX9_truncate_27 ?_
      refine zj_callV1 (n := 31) (a' := 0) (b' := 0) rfl dX9_truncate_28 zm_X9_76 (by decide) (by decide) rfl (Nat.le_of_ble_eq_true rfl) (Nat.le_of_ble_eq_true rfl) (Nat.le_of_ble_eq_true rfl) (Nat.le_of_ble_eq_true rfl) (jX1_cut (m := k) (Or.inl rfl) ?_)
      refine zj_return dX9_truncate_31 rfl ?_
      have e : (a_trunc n (nI k)).1 = 0 := by unfold a_trunc; rw [c2]; rfl
      exact h e _ ⟨fun a h1 h2 => zU_off h1, rfl⟩ (by rw [xn_at (by omega)]; omega) (by rw [xn_at (by omega)]; exact hB.cut (M' := (zU M.1 100 1 (nI k), M.2)) (by omega) zUe (by dsimp only; rw [zU_off (by decide)]))
theorem jX9_errorCode {c : Nat} {Q : Option Value → zM → Prop} {X : String → zM → Prop} {M : zM} (hc : M.1 104 2 = nI c) (h : Q (some (.int (nI c))) M) : zJ yX9_errorCode cX9_errorCode 1 (some .int) rX9_errorCode Q X rX9_errorCode.cells rX9_errorCode.slots 0 (zEnt 1 [.ref 99]) [] M := by
  show zJ yX9_errorCode cX9_errorCode 1 (some .int) rX9_errorCode Q X 0 0 0 [some (.ref 99)] [] M
  refine zj_aload0 (n := 1) rfl dX9_errorCode_0 ?_
  refine zj_getr (n := 4) (q := 104) rfl dX9_errorCode_1 zf_X9_26 rfl (by decide) rfl rfl ?_
  refine zj_getiN (e := c) (n := 7) rfl dX9_errorCode_4 zf_X9_98 rfl (by decide) (by decide) hc ?_
  exact zj_ireturn dX9_errorCode_7 rfl rfl h
theorem jX9_errorPosition {c p : Nat}  {Q : Option Value → zM → Prop} {X : String → zM → Prop} {M : zM} (hc : M.1 104 2 = nI c) (hc5 : c ≤ 5) (hp : c ≠ 0 → M.1 104 3 = nI p) (h : Q (some (.int (if c = 0 then -1 else nI p))) M) : zJ yX9_errorPosition cX9_errorPosition 1 (some .int) rX9_errorPosition Q X rX9_errorPosition.cells rX9_errorPosition.slots 0 (zEnt 1 [.ref 99]) [] M := by
  show zJ yX9_errorPosition cX9_errorPosition 1 (some .int) rX9_errorPosition Q X 0 0 0 [some (.ref 99)] [] M
  refine zj_aload0 (n := 1) rfl dX9_errorPosition_0 ?_
  refine zj_getr (n := 4) (q := 104) rfl dX9_errorPosition_1 zf_X9_26 rfl (by decide) rfl rfl ?_
  refine zj_getiN (e := c) (n := 7) rfl dX9_errorPosition_4 zf_X9_98 rfl (by decide) (by decide) hc ?_
  refine zj_ifN_ne (n := 10) (tgt := 14) rfl dX9_errorPosition_7 (by decide) (by omega) (fun c7 => ?_) (fun c7 => ?_)
  · refine zj_aload0 (n := 15) rfl dX9_errorPosition_14 ?_
    refine zj_getr (n := 18) (q := 104) rfl dX9_errorPosition_15 zf_X9_26 rfl (by decide) rfl rfl ?_
    refine zj_getiN (e := p) (n := 21) rfl dX9_errorPosition_18 zf_X9_101 rfl (by decide) (by decide) (hp (by omega)) ?_
    refine zj_ireturn dX9_errorPosition_21 rfl rfl ?_
    rw [if_neg (by omega)] at h
    exact h
  · refine zj_iconst_m1 (n := 11) rfl dX9_errorPosition_10 ?_
    refine zj_goto (tgt := 21) dX9_errorPosition_11 (by decide) ?_
    refine zj_ireturn dX9_errorPosition_21 rfl rfl ?_
    rw [if_pos (by omega)] at h
    exact h
theorem jX9_outputByte {s : Nat × (Nat → Nat)} {x : Int32} {Q : Option Value → zM → Prop} {X : String → zM → Prop} {M : zM} (hB : zBy M 102 s.1 s.2) (hx1 : (a_outB s x).1 = 1 → X "java/lang/IndexOutOfBoundsException" M) (h : (a_outB s x).1 = 0 → Q (some (.int (a_outB s x).2)) M) : zJ yX9_outputByte cX9_outputByte 2 (some .int) rX9_outputByte Q X rX9_outputByte.cells rX9_outputByte.slots 0 (zEnt 2 [.ref 99, .int x]) [] M := by
  have hl : s.1 ≤ 200 := hB.2.2.1
  show zJ yX9_outputByte cX9_outputByte 2 (some .int) rX9_outputByte Q X 1 6 0 [some (.ref 99), some (.int x)] [] M
  refine zj_iload1 (n := 1) rfl dX9_outputByte_0 ?_
  refine zj_if_lt (n := 4) (tgt := 19) rfl dX9_outputByte_1 (by decide) (fun c1 => ?_) (fun c1 => ?_)
  · refine zj_iconstN_0 (n := 20) rfl dX9_outputByte_19 ?_
    refine zj_callS1 (n := 23) (a' := 0) (b' := 0) rfl dX9_outputByte_20 zm_X9_308 (by decide) (Nat.le_of_ble_eq_true rfl) (Nat.le_of_ble_eq_true rfl) (Nat.le_of_ble_eq_true rfl) (Nat.le_of_ble_eq_true rfl) (jX9_needIndex (p := false) (fun q => by cases q) (fun _ => hx1 (by unfold a_outB; rw [zin_f1 c1]; rfl)))
  · refine zj_iload1 (n := 5) rfl dX9_outputByte_4 ?_
    refine zj_aload0 (n := 6) rfl dX9_outputByte_5 ?_
    refine zj_getr (n := 9) (q := 102) rfl dX9_outputByte_6 zf_X9_18 rfl (by decide) rfl rfl ?_
    refine zj_getiN (e := s.1) (n := 12) rfl dX9_outputByte_9 zf_X9_58 rfl (by decide) (by decide) hB.2.1 ?_
    refine zj_icmp_ge (n := 15) (tgt := 19) rfl dX9_outputByte_12 (by decide) (fun c12 => ?_) (fun c12 => ?_)
    · refine zj_iconstN_0 (n := 20) rfl dX9_outputByte_19 ?_
      refine zj_callS1 (n := 23) (a' := 0) (b' := 0) rfl dX9_outputByte_20 zm_X9_308 (by decide) (Nat.le_of_ble_eq_true rfl) (Nat.le_of_ble_eq_true rfl) (Nat.le_of_ble_eq_true rfl) (Nat.le_of_ble_eq_true rfl) (jX9_needIndex (p := false) (fun q => by cases q) (fun _ => hx1 (by unfold a_outB; rw [zin_f2 c12]; rfl)))
    · refine zj_iconstN_1 (n := 16) rfl dX9_outputByte_15 ?_
      refine zj_goto (tgt := 20) dX9_outputByte_16 (by decide) ?_
      refine zj_callS1 (n := 23) (a' := 0) (b' := 0) rfl dX9_outputByte_20 zm_X9_308 (by decide) (Nat.le_of_ble_eq_true rfl) (Nat.le_of_ble_eq_true rfl) (Nat.le_of_ble_eq_true rfl) (Nat.le_of_ble_eq_true rfl) (jX9_needIndex (p := true) (fun _ => ?_) (fun q => by cases q))
      have c2 : zin x s.1 = true := zin_t c1 c12
      obtain ⟨k, hk, rfl⟩ := (zin_iff (by omega)).mp c2
      refine zj_aload0 (n := 24) rfl dX9_outputByte_23 ?_
      refine zj_getr (n := 27) (q := 102) rfl dX9_outputByte_24 zf_X9_18 rfl (by decide) rfl rfl ?_
      refine zj_iload1 (n := 28) rfl dX9_outputByte_27 ?_
      refine zj_callV1 (n := 31) (a' := 0) (b' := 0) rfl dX9_outputByte_28 zm_X9_335 (by decide) (by decide) rfl (Nat.le_of_ble_eq_true rfl) (Nat.le_of_ble_eq_true rfl) (Nat.le_of_ble_eq_true rfl) (Nat.le_of_ble_eq_true rfl) (jX1_at (j := k) hB (by omega) ?_)
      refine zj_ireturn dX9_outputByte_31 rfl rfl ?_
      have e : a_outB s (nI k) = (0, nI (s.2 k)) := by unfold a_outB; rw [c2, xn_at (by omega)]; rfl
      rw [e] at h
      rw [if_pos hk]
      exact h rfl
theorem z_fnd {M : zM} {v : zV} {kd n : Nat} {B : Nat → Nat} (hR : zRg M 0 v) (hN : zNmS v) : zfo (v 6) (fun r => decide (M.1 (1 + 1) (r * 8 + (8 - 1)) = nI (vnm B 0 n))) = kfind v 0 B 0 n ∧ zfo (v 7) (fun r => decide (M.1 (3 + 1) (r * 6 + (6 - 1)) = nI (vnm B 0 n))) = kfind v 1 B 0 n ∧ zfo (v 8) (fun r => decide (M.1 (5 + 1) (r * 21 + (21 - 1)) = nI (vnm B 0 n))) = kfind v 2 B 0 n := by
  have hn3 := vnm_lt B 0 n
  refine ⟨zfo_congr (fun r hr => ?_), zfo_congr (fun r hr => ?_), zfo_congr (fun r hr => ?_)⟩
  · have hn2 := (hN.at (kd := 0) (by decide) (show r < v (6 + 0) from hr)).nlt
    rw [show M.1 (1 + 1) (r * 8 + (8 - 1)) = nI (vname v (10 + 12 * r + 6)) from hR.n.c7 hr, show vname v (10 + 12 * r + 6) = vname v (kbase 0 r) from rfl]
    exact decide_eq_decide.mpr (nI_eq (by omega) (by omega))
  · have hn2 := (hN.at (kd := 1) (by decide) (show r < v (6 + 1) from hr)).nlt
    rw [show M.1 (3 + 1) (r * 6 + (6 - 1)) = nI (vname v (202 + 11 * r + 5)) from hR.t.nm hr, show vname v (202 + 11 * r + 5) = vname v (kbase 1 r) from rfl]
    exact decide_eq_decide.mpr (nI_eq (by omega) (by omega))
  · have hn2 := (hN.at (kd := 2) (by decide) (show r < v (6 + 2) from hr)).nlt
    rw [show M.1 (5 + 1) (r * 21 + (21 - 1)) = nI (vname v (268 + 23 * r + 17)) from hR.g.nm hr, show vname v (268 + 23 * r + 17) = vname v (kbase 2 r) from rfl]
    exact decide_eq_decide.mpr (nI_eq (by omega) (by omega))
theorem jX9_find {n : Nat} {B : Nat → Nat} {v : zV} {x : Int32} {Q : Option Value → zM → Prop} {X : String → zM → Prop} {M : zM} (hB : zBy M 100 n B) (hR : zRg M 0 v) (hN : zNmS v) (hx1 : (a_find v n B x).1 = 1 → X "java/lang/IllegalArgumentException" M) (h : (a_find v n B x).1 = 0 → ∀ M', zOf 100 M M' → zBy M' 100 0 B → Q (some (.int (a_find v n B x).2)) M') : zJ yX9_find cX9_find 3 (some .int) rX9_find Q X rX9_find.cells rX9_find.slots 0 (zEnt 3 [.ref 99, .int x]) [] M := by
  have hl : n ≤ 1400 := hB.2.2.1
  have hn3 := vnm_lt B 0 n
  show zJ yX9_find cX9_find 3 (some .int) rX9_find Q X 1 6 0 [some (.ref 99), some (.int x), none] [] M
  refine zj_iload1 (n := 1) rfl dX9_find_0 ?_
  refine zj_callS1 (n := 4) (a' := 1) (b' := 6) rfl dX9_find_1 zm_X9_104 (by decide) (Nat.le_of_ble_eq_true rfl) (Nat.le_of_ble_eq_true rfl) (Nat.le_of_ble_eq_true rfl) (Nat.le_of_ble_eq_true rfl) (jX9_isKind ?_)
  refine zj_callS1 (n := 7) (a' := 0) (b' := 0) rfl dX9_find_4 zm_X9_72 (by decide) (Nat.le_of_ble_eq_true rfl) (Nat.le_of_ble_eq_true rfl) (Nat.le_of_ble_eq_true rfl) (Nat.le_of_ble_eq_true rfl) (jX9_needArgument (fun c2 => ?_) (fun c2 => hx1 (by unfold a_find; rw [c2]; rfl)))
  obtain ⟨k, hk, rfl⟩ := (zin_iff (by decide)).mp c2
  refine zj_aload0 (n := 8) rfl dX9_find_7 ?_
  refine zj_getr (n := 11) (q := 100) rfl dX9_find_8 zf_X9_14 rfl (by decide) rfl rfl ?_
  refine zj_iconstN_0 (n := 12) rfl dX9_find_11 ?_
  refine zj_aload0 (n := 13) rfl dX9_find_12 ?_
  refine zj_getr (n := 16) (q := 100) rfl dX9_find_13 zf_X9_14 rfl (by decide) rfl rfl ?_
  refine zj_getiN (e := n) (n := 19) rfl dX9_find_16 zf_X9_58 rfl (by decide) (by decide) hB.2.1 ?_
  refine zj_callV2 (n := 22) (a' := 0) (b' := 0) rfl dX9_find_19 zm_X9_108 (by decide) (by decide) rfl (Nat.le_of_ble_eq_true rfl) (Nat.le_of_ble_eq_true rfl) (Nat.le_of_ble_eq_true rfl) (Nat.le_of_ble_eq_true rfl) (jX1_nameBetween (f := 0) hB (Nat.zero_le _) (Nat.le_refl _) ?_)
  refine zj_istore2 (n := 23) rfl dX9_find_22 rfl (Nat.le_of_ble_eq_true rfl) ?_
  refine zj_aload0 (n := 24) rfl dX9_find_23 ?_
  refine zj_getr (n := 27) (q := 100) rfl dX9_find_24 zf_X9_14 rfl (by decide) rfl rfl ?_
  refine zj_iconstN_0 (n := 28) rfl dX9_find_27 ?_
  refine zj_callV1 (n := 31) (a' := 0) (b' := 0) rfl dX9_find_28 zm_X9_76 (by decide) (by decide) rfl (Nat.le_of_ble_eq_true rfl) (Nat.le_of_ble_eq_true rfl) (Nat.le_of_ble_eq_true rfl) (Nat.le_of_ble_eq_true rfl) (jX1_cut (m := 0) (Or.inl rfl) ?_)
  refine zj_gen (P := fun M2 => zOf 100 M M2 ∧ zBy M2 100 0 B) ⟨⟨fun a h1 h2 => zU_off h1, rfl⟩, hB.cut (M' := (zU M.1 100 1 (nI 0), M.2)) (Nat.zero_le _) zUe (by dsimp only; rw [zU_off (by decide)])⟩ ?_
  intro M2 h2
  obtain ⟨hF2, hB2⟩ := h2
  have hR2 := hF2.rg (by decide) hR
  have f9 := z_fnd (M := M2) (kd := 0) (n := n) (B := B) hR2 hN
  refine zj_iload2 (n := 32) rfl dX9_find_31 ?_
  refine zj_ifN_ne (n := 35) (tgt := 39) rfl dX9_find_32 (by decide) (by omega) (fun c32 => ?_) (fun c32 => ?_)
  · refine zj_aload0 (n := 40) rfl dX9_find_39 ?_
    refine zj_getr (n := 43) (q := 0) rfl dX9_find_40 zf_X9_33 rfl (by decide) rfl rfl ?_
    have hk9 := hk
    rcases (show k = 0 ∨ k = 1 ∨ k = 2 by omega) with rfl | rfl | rfl
    · refine zj_iload1 (n := 44) rfl dX9_find_43 ?_
      refine zj_callV1 (n := 47) (a' := 0) (b' := 0) rfl dX9_find_44 zm_X9_112 (by decide) (by decide) rfl (Nat.le_of_ble_eq_true rfl) (Nat.le_of_ble_eq_true rfl) (Nat.le_of_ble_eq_true rfl) (Nat.le_of_ble_eq_true rfl) (jX6_tableOf0 ?_)
      refine zj_iload2 (n := 48) rfl dX9_find_47 ?_
      refine zj_callV1 (n := 51) (a' := 0) (b' := 0) rfl dX9_find_48 zm_X9_116 (by decide) (by decide) rfl (Nat.le_of_ble_eq_true rfl) (Nat.le_of_ble_eq_true rfl) (Nat.le_of_ble_eq_true rfl) (Nat.le_of_ble_eq_true rfl) (jX7_named (k := 1) (x := nI (vnm B 0 n)) hR2.n.1 ?_)
      refine zj_ireturn dX9_find_51 rfl rfl ?_
      have e : a_find v n B (nI 0) = (0, zo (kfind v 0 B 0 n)) := by unfold a_find; rw [c2, if_pos rfl, if_neg (by omega), xn_at (by decide)]
      rw [e] at h
      rw [f9.1]
      exact h rfl M2 hF2 hB2
    · refine zj_iload1 (n := 44) rfl dX9_find_43 ?_
      refine zj_callV1 (n := 47) (a' := 0) (b' := 0) rfl dX9_find_44 zm_X9_112 (by decide) (by decide) rfl (Nat.le_of_ble_eq_true rfl) (Nat.le_of_ble_eq_true rfl) (Nat.le_of_ble_eq_true rfl) (Nat.le_of_ble_eq_true rfl) (jX6_tableOf1 ?_)
      refine zj_iload2 (n := 48) rfl dX9_find_47 ?_
      refine zj_callV1 (n := 51) (a' := 0) (b' := 0) rfl dX9_find_48 zm_X9_116 (by decide) (by decide) rfl (Nat.le_of_ble_eq_true rfl) (Nat.le_of_ble_eq_true rfl) (Nat.le_of_ble_eq_true rfl) (Nat.le_of_ble_eq_true rfl) (jX7_named (k := 3) (x := nI (vnm B 0 n)) hR2.t.1 ?_)
      refine zj_ireturn dX9_find_51 rfl rfl ?_
      have e : a_find v n B (nI 1) = (0, zo (kfind v 1 B 0 n)) := by unfold a_find; rw [c2, if_pos rfl, if_neg (by omega), xn_at (by decide)]
      rw [e] at h
      rw [f9.2.1]
      exact h rfl M2 hF2 hB2
    · refine zj_iload1 (n := 44) rfl dX9_find_43 ?_
      refine zj_callV1 (n := 47) (a' := 0) (b' := 0) rfl dX9_find_44 zm_X9_112 (by decide) (by decide) rfl (Nat.le_of_ble_eq_true rfl) (Nat.le_of_ble_eq_true rfl) (Nat.le_of_ble_eq_true rfl) (Nat.le_of_ble_eq_true rfl) (jX6_tableOf2 ?_)
      refine zj_iload2 (n := 48) rfl dX9_find_47 ?_
      refine zj_callV1 (n := 51) (a' := 0) (b' := 0) rfl dX9_find_48 zm_X9_116 (by decide) (by decide) rfl (Nat.le_of_ble_eq_true rfl) (Nat.le_of_ble_eq_true rfl) (Nat.le_of_ble_eq_true rfl) (Nat.le_of_ble_eq_true rfl) (jX7_named (k := 5) (x := nI (vnm B 0 n)) hR2.g.1 ?_)
      refine zj_ireturn dX9_find_51 rfl rfl ?_
      have e : a_find v n B (nI 2) = (0, zo (kfind v 2 B 0 n)) := by unfold a_find; rw [c2, if_pos rfl, if_neg (by omega), xn_at (by decide)]
      rw [e] at h
      rw [f9.2.2]
      exact h rfl M2 hF2 hB2
  · refine zj_iconst_m1 (n := 36) rfl dX9_find_35 ?_
    refine zj_goto (tgt := 51) dX9_find_36 (by decide) ?_
    refine zj_ireturn dX9_find_51 rfl rfl ?_
    have e : a_find v n B (nI k) = (0, -1) := by unfold a_find; rw [c2, if_pos rfl, if_pos (by omega)]
    rw [e] at h
    exact h rfl M2 hF2 hB2
