/-! THE CLASS'S CHANGES -/
def zMn (M M' : zM) : Prop := (∀ a, ¬ a ≤ 8 → ¬ (18 ≤ a ∧ a ≤ 98) → ¬ (105 ≤ a ∧ a ≤ 116) → M'.1 a = M.1 a) ∧ (∀ c, c ≠ 107 → c ≠ 110 → c ≠ 113 → M'.2.1 c = M.2.1 c) ∧ M'.2.2 = M.2.2
theorem zMn.rf {M : zM} : zMn M M := ⟨fun _ _ _ _ => rfl, fun _ _ _ _ => rfl, rfl⟩
theorem zMn.tr {M M1 M2 : zM} (h : zMn M M1) (h2 : zMn M1 M2) : zMn M M2 := ⟨fun a h3 h4 h5 => (h2.1 a h3 h4 h5).trans (h.1 a h3 h4 h5), fun c h3 h4 h5 => (h2.2.1 c h3 h4 h5).trans (h.2.1 c h3 h4 h5), h2.2.2.trans h.2.2⟩
theorem zMn.ofQ {M M' : zM} (h : zQn M M') : zMn M M' := ⟨fun a _ h2 h3 => h.1 a (by omega) (by omega), h.2.1, h.2.2.1⟩
theorem zCl.kp {M M1 : zM} {v : zV} (h : zCl M v) (hF : ∀ a, (a < 27 ∨ 98 < a) → a ≠ 116 → M1.1 a = M.1 a) : zCl M1 v := ⟨h.1.cg (fun a _ h2 => hF a (by omega) (by omega)), h.2.1.cg (fun a _ h2 => hF a (by omega) (by omega)), h.2.2.1.cg (hF _ (by omega) (by omega)), h.2.2.2.cg (hF _ (by omega) (by omega))⟩
theorem zMn.kp {M M1 : zM} (hF : ∀ a, (a < 27 ∨ 98 < a) → a ≠ 116 → M1.1 a = M.1 a) (hL : M1.2 = M.2) : zMn M M1 := ⟨fun a h1 h2 h3 => hF a (by omega) (by omega), fun c _ _ _ => by rw [hL], by rw [hL]⟩
theorem zCl.wr {M M1 : zM} {v v' : zV} (h : zCl M v) (hF : ∀ a, 8 < a → M1.1 a = M.1 a) (hR : zRg M1 0 v') : zCl M1 v' := ⟨hR, h.2.1.cg (fun a h1 _ => hF a (by omega)), h.2.2.1.cg (hF _ (by omega)), h.2.2.2.cg (hF _ (by omega))⟩
theorem zMn.wr {M M1 M2 : zM} (h : zMn M M1) (hF : ∀ a, 8 < a → M2.1 a = M1.1 a) (hL : M2.2 = M1.2) : zMn M M2 := h.tr ⟨fun a h1 _ _ => hF a (by omega), fun c _ _ _ => by rw [hL], by rw [hL]⟩
theorem zUd.wr {M M1 : zM} {un : Nat} {uv : Nat → zV} (h : zUd M un uv) (hF : ∀ a, 8 < a → M1.1 a = M.1 a) : zUd M1 un uv := h.cg (fun a ha => hF a (by omega))
theorem zUd.ofQ {M M1 : zM} {un : Nat} {uv : Nat → zV} (h : zUd M un uv) (hF : zMn M M1) (hk : ∀ a, 27 ≤ a ∧ a ≤ 98 ∨ a = 116 → M1.1 a = M.1 a) : zUd M1 un uv := h.cg hk
theorem jX9_fail {v : zV} {x : Int32} {un : Nat} {uv : Nat → zV} {Q : Option Value → zM → Prop} {X : String → zM → Prop} {M : zM} (hC : zCl M v) (hW : zWF v) (hU : zUd M un uv) (hx1 : (a_fail v x).1 = 1 → X "java/lang/IndexOutOfBoundsException" M) (hx2 : (a_fail v x).1 = 2 → X "java/lang/IllegalStateException" M) (h : (a_fail v x).1 = 0 → ∀ M', zMn M M' → zCl M' (vst v (xn x) 1) → zUd M' (vkN un) (vkU un uv v) → Q (some (.int (a_fail v x).2)) M') : zJ yX9_fail cX9_fail 3 (some .int) rX9_fail Q X rX9_fail.cells rX9_fail.slots 0 (zEnt 3 [.ref 99, .int x]) [] M := by
  have hR := hC.1
  have h6 := hW.nN
  have h7 := hW.tN
  have h8 := hW.gN
  have h9 := hW.hN
  show zJ yX9_fail cX9_fail 3 (some .int) rX9_fail Q X 2 12 0 [some (.ref 99), some (.int x), none] [] M
  refine zj_aload0 (n := 1) rfl dX9_fail_0 ?_
  refine zj_iload1 (n := 2) rfl dX9_fail_1 ?_
  refine zj_callV1 (n := 5) (a' := 1) (b' := 6) rfl dX9_fail_2 zm_X9_120 (by decide) (by decide) rfl (Nat.le_of_ble_eq_true rfl) (Nat.le_of_ble_eq_true rfl) (Nat.le_of_ble_eq_true rfl) (Nat.le_of_ble_eq_true rfl) (jX9_needNode hR (fun c2 => ?_) (fun c2 => hx1 (by simp [a_fail, c2])))
  obtain ⟨n, hn, rfl⟩ := (zin_iff (by omega)).mp c2
  have hn4 : v (10 + 12 * n + 4) ≤ 2 := (hW.node hn).2.2.2.2
  refine zj_aload0 (n := 6) rfl dX9_fail_5 ?_
  refine zj_getr (n := 9) (q := 0) rfl dX9_fail_6 zf_X9_33 rfl (by decide) (by decide) rfl ?_
  refine zj_getr (n := 12) (q := 1) rfl dX9_fail_9 zf_X9_123 rfl (by decide) (by decide) rfl ?_
  refine zj_iload1 (n := 13) rfl dX9_fail_12 ?_
  refine zj_iconstN_5 (n := 14) rfl dX9_fail_13 ?_
  refine zj_callV2 (n := 17) (a' := 1) (b' := 6) rfl dX9_fail_14 zm_X9_126 (by decide) (by decide) rfl (Nat.le_of_ble_eq_true rfl) (Nat.le_of_ble_eq_true rfl) (Nat.le_of_ble_eq_true rfl) (Nat.le_of_ble_eq_true rfl) (jT_get hR.n.1 (by omega) (by decide) (hR.n.c5 (by omega)) ?_)
  refine zj_iconstN_1 (n := 18) rfl dX9_fail_17 ?_
  refine zj_icmpN_eq (n := 21) (tgt := 25) rfl dX9_fail_18 (by decide) (by omega) (by omega) (fun c18 => ?_) (fun c18 => ?_)
  · refine zj_iconstN_0 (n := 26) rfl dX9_fail_25 ?_
    refine zj_callS1 (n := 29) (a' := 0) (b' := 0) rfl dX9_fail_26 zm_X9_227 (by decide) (Nat.le_of_ble_eq_true rfl) (Nat.le_of_ble_eq_true rfl) (Nat.le_of_ble_eq_true rfl) (Nat.le_of_ble_eq_true rfl) (jX9_needState (p := false) (fun q => by cases q) (fun _ => hx2 (by simp [a_fail, c2, xn_at (show n < 2 ^ 31 by omega), c18])))
  · refine zj_iconstN_1 (n := 22) rfl dX9_fail_21 ?_
    refine zj_goto (tgt := 26) dX9_fail_22 (by decide) ?_
    refine zj_callS1 (n := 29) (a' := 0) (b' := 0) rfl dX9_fail_26 zm_X9_227 (by decide) (Nat.le_of_ble_eq_true rfl) (Nat.le_of_ble_eq_true rfl) (Nat.le_of_ble_eq_true rfl) (Nat.le_of_ble_eq_true rfl) (jX9_needState (p := true) (fun _ => ?_) (fun q => by cases q))
    refine zj_aload0 (n := 30) rfl dX9_fail_29 ?_
    refine zj_getr (n := 33) (q := 116) rfl dX9_fail_30 zf_X9_54 rfl (by decide) (by decide) rfl ?_
    refine zj_aload0 (n := 34) rfl dX9_fail_33 ?_
    refine zj_getr (n := 37) (q := 0) rfl dX9_fail_34 zf_X9_33 rfl (by decide) (by decide) rfl ?_
    refine zj_callV1 (n := 40) (a' := 0) (b' := 0) rfl dX9_fail_37 zm_X9_83 (by decide) (by decide) rfl (Nat.le_of_ble_eq_true rfl) (Nat.le_of_ble_eq_true rfl) (Nat.le_of_ble_eq_true rfl) (Nat.le_of_ble_eq_true rfl) (jX8_keep hU hR hW ?_)
    intro M1 hF1 hL1 hU1
    have hC1 := hC.kp hF1
    have hR1 := hC1.1
    have hm1 := zMn.kp hF1 hL1
    refine zj_aload0 (n := 41) rfl dX9_fail_40 ?_
    refine zj_getr (n := 44) (q := 0) rfl dX9_fail_41 zf_X9_33 rfl (by decide) (by decide) rfl ?_
    refine zj_iconstN_0 (n := 45) rfl dX9_fail_44 ?_
    refine zj_callV1 (n := 48) (a' := 0) (b' := 0) rfl dX9_fail_45 zm_X9_176 (by decide) (by decide) rfl (Nat.le_of_ble_eq_true rfl) (Nat.le_of_ble_eq_true rfl) (Nat.le_of_ble_eq_true rfl) (Nat.le_of_ble_eq_true rfl) (jX6_lostSet hR1 hW (by decide) ?_)
    refine zj_istore2 (n := 49) rfl dX9_fail_48 rfl (Nat.le_of_ble_eq_true rfl) ?_
    refine zj_aload0 (n := 50) rfl dX9_fail_49 ?_
    refine zj_getr (n := 53) (q := 0) rfl dX9_fail_50 zf_X9_33 rfl (by decide) (by decide) rfl ?_
    refine zj_iload1 (n := 54) rfl dX9_fail_53 ?_
    refine zj_iconstN_1 (n := 55) rfl dX9_fail_54 ?_
    refine zj_callV2 (n := 58) (a' := 0) (b' := 0) rfl dX9_fail_55 zm_X9_230 (by decide) (by decide) rfl (Nat.le_of_ble_eq_true rfl) (Nat.le_of_ble_eq_true rfl) (Nat.le_of_ble_eq_true rfl) (Nat.le_of_ble_eq_true rfl) (jX6_setState hR1 hW hn (by decide) ?_)
    intro M2 hF2 hL2 hR2
    have hR2 : zRg M2 0 (vst v n 1) := hR2
    have hC2 := hC1.wr (fun a ha => hF2 a (by omega)) hR2
    have hm2 := hm1.wr (fun a ha => hF2 a (by omega)) hL2
    have hU2 := hU1.wr (fun a ha => hF2 a (by omega))
    refine zj_aload0 (n := 59) rfl dX9_fail_58 ?_
    refine zj_getr (n := 62) (q := 0) rfl dX9_fail_59 zf_X9_33 rfl (by decide) (by decide) rfl ?_
    refine zj_iconstN_0 (n := 63) rfl dX9_fail_62 ?_
    refine zj_callV1 (n := 66) (a' := 0) (b' := 0) rfl dX9_fail_63 zm_X9_176 (by decide) (by decide) rfl (Nat.le_of_ble_eq_true rfl) (Nat.le_of_ble_eq_true rfl) (Nat.le_of_ble_eq_true rfl) (Nat.le_of_ble_eq_true rfl) (jX6_lostSet hR2 (vst_wf hW hn (by decide)) (by decide) ?_)
    refine zj_iload2 (n := 67) rfl dX9_fail_66 ?_
    refine zj_iconst_m1 (n := 68) rfl dX9_fail_67 ?_
    refine zj_ixor (n := 69) rfl dX9_fail_68 ?_
    refine zj_iand (n := 70) rfl dX9_fail_69 ?_
    refine zj_ireturn dX9_fail_70 rfl rfl ?_
    simp only [xn_at (show n < 2 ^ 31 by omega)] at h
    have h := h (by simp only [a_fail, c2, c18, xn_at (show n < 2 ^ 31 by omega), if_true, if_false, Bool.false_eq_true, Bool.and_true, Bool.true_and]) M2 hm2 hC2 hU2
    simp only [a_fail, c2, c18, xn_at (show n < 2 ^ 31 by omega), if_true, if_false, Bool.false_eq_true, Bool.and_true, Bool.true_and] at h
    have e8 : vst v n 1 8 = v 8 := by unfold vst; rw [vset_off (by omega), vset_off (by omega)]
    refine zQi h ?_
    rw [e8, zMask_diff]
theorem jX9_recover {v : zV} {x : Int32} {un : Nat} {uv : Nat → zV} {Q : Option Value → zM → Prop} {X : String → zM → Prop} {M : zM} (hC : zCl M v) (hW : zWF v) (hU : zUd M un uv) (hx1 : (a_recover v x).1 = 1 → X "java/lang/IndexOutOfBoundsException" M) (hx2 : (a_recover v x).1 = 2 → X "java/lang/IllegalStateException" M) (h : (a_recover v x).1 = 0 → ∀ M', zMn M M' → zCl M' (vst v (xn x) 0) → zUd M' (vkN un) (vkU un uv v) → Q (some (.int (a_recover v x).2)) M') : zJ yX9_recover cX9_recover 3 (some .int) rX9_recover Q X rX9_recover.cells rX9_recover.slots 0 (zEnt 3 [.ref 99, .int x]) [] M := by
  have hR := hC.1
  have h6 := hW.nN
  have h7 := hW.tN
  have h8 := hW.gN
  have h9 := hW.hN
  show zJ yX9_recover cX9_recover 3 (some .int) rX9_recover Q X 2 12 0 [some (.ref 99), some (.int x), none] [] M
  refine zj_aload0 (n := 1) rfl dX9_recover_0 ?_
  refine zj_iload1 (n := 2) rfl dX9_recover_1 ?_
  refine zj_callV1 (n := 5) (a' := 1) (b' := 6) rfl dX9_recover_2 zm_X9_120 (by decide) (by decide) rfl (Nat.le_of_ble_eq_true rfl) (Nat.le_of_ble_eq_true rfl) (Nat.le_of_ble_eq_true rfl) (Nat.le_of_ble_eq_true rfl) (jX9_needNode hR (fun c2 => ?_) (fun c2 => hx1 (by simp [a_recover, c2])))
  obtain ⟨n, hn, rfl⟩ := (zin_iff (by omega)).mp c2
  have hn4 : v (10 + 12 * n + 4) ≤ 2 := (hW.node hn).2.2.2.2
  refine zj_aload0 (n := 6) rfl dX9_recover_5 ?_
  refine zj_getr (n := 9) (q := 0) rfl dX9_recover_6 zf_X9_33 rfl (by decide) (by decide) rfl ?_
  refine zj_getr (n := 12) (q := 1) rfl dX9_recover_9 zf_X9_123 rfl (by decide) (by decide) rfl ?_
  refine zj_iload1 (n := 13) rfl dX9_recover_12 ?_
  refine zj_iconstN_5 (n := 14) rfl dX9_recover_13 ?_
  refine zj_callV2 (n := 17) (a' := 1) (b' := 6) rfl dX9_recover_14 zm_X9_126 (by decide) (by decide) rfl (Nat.le_of_ble_eq_true rfl) (Nat.le_of_ble_eq_true rfl) (Nat.le_of_ble_eq_true rfl) (Nat.le_of_ble_eq_true rfl) (jT_get hR.n.1 (by omega) (by decide) (hR.n.c5 (by omega)) ?_)
  refine zj_iconstN_1 (n := 18) rfl dX9_recover_17 ?_
  refine zj_icmpN_ne (n := 21) (tgt := 25) rfl dX9_recover_18 (by decide) (by omega) (by omega) (fun c18 => ?_) (fun c18 => ?_)
  · refine zj_iconstN_0 (n := 26) rfl dX9_recover_25 ?_
    refine zj_callS1 (n := 29) (a' := 0) (b' := 0) rfl dX9_recover_26 zm_X9_227 (by decide) (Nat.le_of_ble_eq_true rfl) (Nat.le_of_ble_eq_true rfl) (Nat.le_of_ble_eq_true rfl) (Nat.le_of_ble_eq_true rfl) (jX9_needState (p := false) (fun q => by cases q) (fun _ => hx2 (by simp [a_recover, c2, xn_at (show n < 2 ^ 31 by omega), c18])))
  · refine zj_iconstN_1 (n := 22) rfl dX9_recover_21 ?_
    refine zj_goto (tgt := 26) dX9_recover_22 (by decide) ?_
    refine zj_callS1 (n := 29) (a' := 0) (b' := 0) rfl dX9_recover_26 zm_X9_227 (by decide) (Nat.le_of_ble_eq_true rfl) (Nat.le_of_ble_eq_true rfl) (Nat.le_of_ble_eq_true rfl) (Nat.le_of_ble_eq_true rfl) (jX9_needState (p := true) (fun _ => ?_) (fun q => by cases q))
    refine zj_aload0 (n := 30) rfl dX9_recover_29 ?_
    refine zj_getr (n := 33) (q := 116) rfl dX9_recover_30 zf_X9_54 rfl (by decide) (by decide) rfl ?_
    refine zj_aload0 (n := 34) rfl dX9_recover_33 ?_
    refine zj_getr (n := 37) (q := 0) rfl dX9_recover_34 zf_X9_33 rfl (by decide) (by decide) rfl ?_
    refine zj_callV1 (n := 40) (a' := 0) (b' := 0) rfl dX9_recover_37 zm_X9_83 (by decide) (by decide) rfl (Nat.le_of_ble_eq_true rfl) (Nat.le_of_ble_eq_true rfl) (Nat.le_of_ble_eq_true rfl) (Nat.le_of_ble_eq_true rfl) (jX8_keep hU hR hW ?_)
    intro M1 hF1 hL1 hU1
    have hC1 := hC.kp hF1
    have hR1 := hC1.1
    have hm1 := zMn.kp hF1 hL1
    refine zj_aload0 (n := 41) rfl dX9_recover_40 ?_
    refine zj_getr (n := 44) (q := 0) rfl dX9_recover_41 zf_X9_33 rfl (by decide) (by decide) rfl ?_
    refine zj_iconstN_0 (n := 45) rfl dX9_recover_44 ?_
    refine zj_callV1 (n := 48) (a' := 0) (b' := 0) rfl dX9_recover_45 zm_X9_176 (by decide) (by decide) rfl (Nat.le_of_ble_eq_true rfl) (Nat.le_of_ble_eq_true rfl) (Nat.le_of_ble_eq_true rfl) (Nat.le_of_ble_eq_true rfl) (jX6_lostSet hR1 hW (by decide) ?_)
    refine zj_istore2 (n := 49) rfl dX9_recover_48 rfl (Nat.le_of_ble_eq_true rfl) ?_
    refine zj_aload0 (n := 50) rfl dX9_recover_49 ?_
    refine zj_getr (n := 53) (q := 0) rfl dX9_recover_50 zf_X9_33 rfl (by decide) (by decide) rfl ?_
    refine zj_iload1 (n := 54) rfl dX9_recover_53 ?_
    refine zj_iconstN_0 (n := 55) rfl dX9_recover_54 ?_
    refine zj_callV2 (n := 58) (a' := 0) (b' := 0) rfl dX9_recover_55 zm_X9_230 (by decide) (by decide) rfl (Nat.le_of_ble_eq_true rfl) (Nat.le_of_ble_eq_true rfl) (Nat.le_of_ble_eq_true rfl) (Nat.le_of_ble_eq_true rfl) (jX6_setState hR1 hW hn (by decide) ?_)
    intro M2 hF2 hL2 hR2
    have hR2 : zRg M2 0 (vst v n 0) := hR2
    have hC2 := hC1.wr (fun a ha => hF2 a (by omega)) hR2
    have hm2 := hm1.wr (fun a ha => hF2 a (by omega)) hL2
    have hU2 := hU1.wr (fun a ha => hF2 a (by omega))
    refine zj_iload2 (n := 59) rfl dX9_recover_58 ?_
    refine zj_aload0 (n := 60) rfl dX9_recover_59 ?_
    refine zj_getr (n := 63) (q := 0) rfl dX9_recover_60 zf_X9_33 rfl (by decide) (by decide) rfl ?_
    refine zj_iconstN_0 (n := 64) rfl dX9_recover_63 ?_
    refine zj_callV1 (n := 67) (a' := 0) (b' := 0) rfl dX9_recover_64 zm_X9_176 (by decide) (by decide) rfl (Nat.le_of_ble_eq_true rfl) (Nat.le_of_ble_eq_true rfl) (Nat.le_of_ble_eq_true rfl) (Nat.le_of_ble_eq_true rfl) (jX6_lostSet hR2 (vst_wf hW hn (by decide)) (by decide) ?_)
    refine zj_iconst_m1 (n := 68) rfl dX9_recover_67 ?_
    refine zj_ixor (n := 69) rfl dX9_recover_68 ?_
    refine zj_iand (n := 70) rfl dX9_recover_69 ?_
    refine zj_ireturn dX9_recover_70 rfl rfl ?_
    simp only [xn_at (show n < 2 ^ 31 by omega)] at h
    have h := h (by simp only [a_recover, c2, c18, xn_at (show n < 2 ^ 31 by omega), if_true, if_false, Bool.false_eq_true, Bool.and_true, Bool.true_and]) M2 hm2 hC2 hU2
    simp only [a_recover, c2, c18, xn_at (show n < 2 ^ 31 by omega), if_true, if_false, Bool.false_eq_true, Bool.and_true, Bool.true_and] at h
    have e8 : vst v n 0 8 = v 8 := by unfold vst; rw [vset_off (by omega), vset_off (by omega)]
    refine zQi h ?_
    rw [e8, zMask_diff]
theorem jX9_drain {v : zV} {x : Int32} {un : Nat} {uv : Nat → zV} {b : Bool} {Q : Option Value → zM → Prop} {X : String → zM → Prop} {M : zM} (hC : zCl M v) (hW : zWF v) (hU : zUd M un uv) (hx1 : (a_drain v x b).1 = 1 → X "java/lang/IndexOutOfBoundsException" M) (hx2 : (a_drain v x b).1 = 2 → X "java/lang/IllegalStateException" M) (h : (a_drain v x b).1 = 0 → ∀ M', zMn M M' → zCl M' (vst v (xn x) (if b then 2 else 0)) → zUd M' (vkN un) (vkU un uv v) → Q (some (.int (a_drain v x b).2)) M') : zJ yX9_drain cX9_drain 3 (some .int) rX9_drain Q X rX9_drain.cells rX9_drain.slots 0 (zEnt 3 [.ref 99, .int x, .int (zb b)]) [] M := by
  have hR := hC.1
  have h6 := hW.nN
  have h7 := hW.tN
  have h8 := hW.gN
  have h9 := hW.hN
  show zJ yX9_drain cX9_drain 3 (some .int) rX9_drain Q X 2 12 0 [some (.ref 99), some (.int x), some (.int (zb b))] [] M
  refine zj_aload0 (n := 1) rfl dX9_drain_0 ?_
  refine zj_iload1 (n := 2) rfl dX9_drain_1 ?_
  refine zj_callV1 (n := 5) (a' := 1) (b' := 6) rfl dX9_drain_2 zm_X9_120 (by decide) (by decide) rfl (Nat.le_of_ble_eq_true rfl) (Nat.le_of_ble_eq_true rfl) (Nat.le_of_ble_eq_true rfl) (Nat.le_of_ble_eq_true rfl) (jX9_needNode hR (fun c2 => ?_) (fun c2 => hx1 (by simp [a_drain, c2])))
  obtain ⟨n, hn, rfl⟩ := (zin_iff (by omega)).mp c2
  have hn4 : v (10 + 12 * n + 4) ≤ 2 := (hW.node hn).2.2.2.2
  refine zj_aload0 (n := 6) rfl dX9_drain_5 ?_
  refine zj_getr (n := 9) (q := 0) rfl dX9_drain_6 zf_X9_33 rfl (by decide) (by decide) rfl ?_
  refine zj_getr (n := 12) (q := 1) rfl dX9_drain_9 zf_X9_123 rfl (by decide) (by decide) rfl ?_
  refine zj_iload1 (n := 13) rfl dX9_drain_12 ?_
  refine zj_iconstN_5 (n := 14) rfl dX9_drain_13 ?_
  refine zj_callV2 (n := 17) (a' := 1) (b' := 6) rfl dX9_drain_14 zm_X9_126 (by decide) (by decide) rfl (Nat.le_of_ble_eq_true rfl) (Nat.le_of_ble_eq_true rfl) (Nat.le_of_ble_eq_true rfl) (Nat.le_of_ble_eq_true rfl) (jT_get hR.n.1 (by omega) (by decide) (hR.n.c5 (by omega)) ?_)
  refine zj_iload2 (n := 18) rfl dX9_drain_17 ?_
  refine zj_ifB_eq (n := 21) (tgt := 25) rfl dX9_drain_18 (by decide) (fun c18 => ?_) (fun c18 => ?_)
  · refine zj_iconstN_2 (n := 26) rfl dX9_drain_25 ?_
    refine zj_icmpN_ne (n := 29) (tgt := 33) rfl dX9_drain_26 (by decide) (by omega) (by omega) (fun c26 => ?_) (fun c26 => ?_)
    · refine zj_iconstN_0 (n := 34) rfl dX9_drain_33 ?_
      refine zj_callS1 (n := 37) (a' := 0) (b' := 0) rfl dX9_drain_34 zm_X9_227 (by decide) (Nat.le_of_ble_eq_true rfl) (Nat.le_of_ble_eq_true rfl) (Nat.le_of_ble_eq_true rfl) (Nat.le_of_ble_eq_true rfl) (jX9_needState (p := false) (fun q => by cases q) (fun _ => hx2 (by simp only [a_drain, c2, xn_at (show n < 2 ^ 31 by omega), if_true, c18, Bool.false_eq_true, if_false]; rw [if_neg c26])))
    · refine zj_iconstN_1 (n := 30) rfl dX9_drain_29 ?_
      refine zj_goto (tgt := 34) dX9_drain_30 (by decide) ?_
      refine zj_callS1 (n := 37) (a' := 0) (b' := 0) rfl dX9_drain_34 zm_X9_227 (by decide) (Nat.le_of_ble_eq_true rfl) (Nat.le_of_ble_eq_true rfl) (Nat.le_of_ble_eq_true rfl) (Nat.le_of_ble_eq_true rfl) (jX9_needState (p := true) (fun _ => ?_) (fun q => by cases q))
      refine zj_aload0 (n := 38) rfl dX9_drain_37 ?_
      refine zj_getr (n := 41) (q := 116) rfl dX9_drain_38 zf_X9_54 rfl (by decide) (by decide) rfl ?_
      refine zj_aload0 (n := 42) rfl dX9_drain_41 ?_
      refine zj_getr (n := 45) (q := 0) rfl dX9_drain_42 zf_X9_33 rfl (by decide) (by decide) rfl ?_
      refine zj_callV1 (n := 48) (a' := 0) (b' := 0) rfl dX9_drain_45 zm_X9_83 (by decide) (by decide) rfl (Nat.le_of_ble_eq_true rfl) (Nat.le_of_ble_eq_true rfl) (Nat.le_of_ble_eq_true rfl) (Nat.le_of_ble_eq_true rfl) (jX8_keep hU hR hW ?_)
      intro M1 hF1 hL1 hU1
      have hC1 := hC.kp hF1
      have hR1 := hC1.1
      have hm1 := zMn.kp hF1 hL1
      refine zj_aload0 (n := 49) rfl dX9_drain_48 ?_
      refine zj_getr (n := 52) (q := 0) rfl dX9_drain_49 zf_X9_33 rfl (by decide) (by decide) rfl ?_
      refine zj_iload1 (n := 53) rfl dX9_drain_52 ?_
      refine zj_iload2 (n := 54) rfl dX9_drain_53 ?_
      refine zj_ifB_eq (n := 57) (tgt := 61) rfl dX9_drain_54 (by decide) (fun c54 => ?_) (fun c54 => absurd (c18.symm.trans c54) (by decide))
      refine zj_iconstN_0 (n := 62) rfl dX9_drain_61 ?_
      refine zj_callV2 (n := 65) (a' := 0) (b' := 0) rfl dX9_drain_62 zm_X9_230 (by decide) (by decide) rfl (Nat.le_of_ble_eq_true rfl) (Nat.le_of_ble_eq_true rfl) (Nat.le_of_ble_eq_true rfl) (Nat.le_of_ble_eq_true rfl) (jX6_setState hR1 hW hn (by decide) ?_)
      intro M2 hF2 hL2 hR2
      have hR2 : zRg M2 0 (vst v n 0) := hR2
      have hC2 := hC1.wr (fun a ha => hF2 a (by omega)) hR2
      have hm2 := hm1.wr (fun a ha => hF2 a (by omega)) hL2
      have hU2 := hU1.wr (fun a ha => hF2 a (by omega))
      have e9 : vcnt (vst v n 0) (vst v n 0 8) n = vcnt v (v 8) n := by
        have e8 : vst v n 0 8 = v 8 := by unfold vst; rw [vset_off (by omega), vset_off (by omega)]
        rw [e8]
        exact vcnt_vg h8 (fun g hg => (hW.sh hg).2) (fun i h1 h2 => by unfold vst; rw [vset_off (by omega), vset_off (by omega)])
      refine zj_aload0 (n := 66) rfl dX9_drain_65 ?_
      refine zj_getr (n := 69) (q := 0) rfl dX9_drain_66 zf_X9_33 rfl (by decide) (by decide) rfl ?_
      refine zj_getr (n := 72) (q := 1) rfl dX9_drain_69 zf_X9_123 rfl (by decide) (by decide) rfl ?_
      refine zj_iload1 (n := 73) rfl dX9_drain_72 ?_
      refine zj_iconstN_4 (n := 74) rfl dX9_drain_73 ?_
      have hn2 : n < vst v n 0 6 := by unfold vst; rw [vset_off (by omega), vset_off (by omega)]; exact hn
      refine zj_callV2 (n := 77) (a' := 0) (b' := 0) rfl dX9_drain_74 zm_X9_126 (by decide) (by decide) rfl (Nat.le_of_ble_eq_true rfl) (Nat.le_of_ble_eq_true rfl) (Nat.le_of_ble_eq_true rfl) (Nat.le_of_ble_eq_true rfl) (jT_get hR2.n.1 hn2 (by decide) (hR2.n.c4 hn2) ?_)
      refine zj_ireturn dX9_drain_77 rfl rfl ?_
      subst c18
      simp only [xn_at (show n < 2 ^ 31 by omega)] at h
      have h := h (by simp only [a_drain, c2, xn_at (show n < 2 ^ 31 by omega), if_true, if_false, Bool.false_eq_true]; rw [if_pos c26]) M2 hm2 hC2 hU2
      simp only [a_drain, c2, xn_at (show n < 2 ^ 31 by omega), if_true, if_false, Bool.false_eq_true] at h
      rw [if_pos c26] at h
      refine zQi h ?_
      exact congrArg nI e9.symm
  · refine zj_iconstN_0 (n := 22) rfl dX9_drain_21 ?_
    refine zj_goto (tgt := 26) dX9_drain_22 (by decide) ?_
    refine zj_icmpN_ne (n := 29) (tgt := 33) rfl dX9_drain_26 (by decide) (by omega) (by omega) (fun c26 => ?_) (fun c26 => ?_)
    · refine zj_iconstN_0 (n := 34) rfl dX9_drain_33 ?_
      refine zj_callS1 (n := 37) (a' := 0) (b' := 0) rfl dX9_drain_34 zm_X9_227 (by decide) (Nat.le_of_ble_eq_true rfl) (Nat.le_of_ble_eq_true rfl) (Nat.le_of_ble_eq_true rfl) (Nat.le_of_ble_eq_true rfl) (jX9_needState (p := false) (fun q => by cases q) (fun _ => hx2 (by simp only [a_drain, c2, xn_at (show n < 2 ^ 31 by omega), if_true, c18, Bool.false_eq_true, if_false]; rw [if_neg c26])))
    · refine zj_iconstN_1 (n := 30) rfl dX9_drain_29 ?_
      refine zj_goto (tgt := 34) dX9_drain_30 (by decide) ?_
      refine zj_callS1 (n := 37) (a' := 0) (b' := 0) rfl dX9_drain_34 zm_X9_227 (by decide) (Nat.le_of_ble_eq_true rfl) (Nat.le_of_ble_eq_true rfl) (Nat.le_of_ble_eq_true rfl) (Nat.le_of_ble_eq_true rfl) (jX9_needState (p := true) (fun _ => ?_) (fun q => by cases q))
      refine zj_aload0 (n := 38) rfl dX9_drain_37 ?_
      refine zj_getr (n := 41) (q := 116) rfl dX9_drain_38 zf_X9_54 rfl (by decide) (by decide) rfl ?_
      refine zj_aload0 (n := 42) rfl dX9_drain_41 ?_
      refine zj_getr (n := 45) (q := 0) rfl dX9_drain_42 zf_X9_33 rfl (by decide) (by decide) rfl ?_
      refine zj_callV1 (n := 48) (a' := 0) (b' := 0) rfl dX9_drain_45 zm_X9_83 (by decide) (by decide) rfl (Nat.le_of_ble_eq_true rfl) (Nat.le_of_ble_eq_true rfl) (Nat.le_of_ble_eq_true rfl) (Nat.le_of_ble_eq_true rfl) (jX8_keep hU hR hW ?_)
      intro M1 hF1 hL1 hU1
      have hC1 := hC.kp hF1
      have hR1 := hC1.1
      have hm1 := zMn.kp hF1 hL1
      refine zj_aload0 (n := 49) rfl dX9_drain_48 ?_
      refine zj_getr (n := 52) (q := 0) rfl dX9_drain_49 zf_X9_33 rfl (by decide) (by decide) rfl ?_
      refine zj_iload1 (n := 53) rfl dX9_drain_52 ?_
      refine zj_iload2 (n := 54) rfl dX9_drain_53 ?_
      refine zj_ifB_eq (n := 57) (tgt := 61) rfl dX9_drain_54 (by decide) (fun c54 => absurd (c18.symm.trans c54) (by decide)) (fun c54 => ?_)
      refine zj_iconstN_2 (n := 58) rfl dX9_drain_57 ?_
      refine zj_goto (tgt := 62) dX9_drain_58 (by decide) ?_
      refine zj_callV2 (n := 65) (a' := 0) (b' := 0) rfl dX9_drain_62 zm_X9_230 (by decide) (by decide) rfl (Nat.le_of_ble_eq_true rfl) (Nat.le_of_ble_eq_true rfl) (Nat.le_of_ble_eq_true rfl) (Nat.le_of_ble_eq_true rfl) (jX6_setState hR1 hW hn (by decide) ?_)
      intro M2 hF2 hL2 hR2
      have hR2 : zRg M2 0 (vst v n 2) := hR2
      have hC2 := hC1.wr (fun a ha => hF2 a (by omega)) hR2
      have hm2 := hm1.wr (fun a ha => hF2 a (by omega)) hL2
      have hU2 := hU1.wr (fun a ha => hF2 a (by omega))
      have e9 : vcnt (vst v n 2) (vst v n 2 8) n = vcnt v (v 8) n := by
        have e8 : vst v n 2 8 = v 8 := by unfold vst; rw [vset_off (by omega), vset_off (by omega)]
        rw [e8]
        exact vcnt_vg h8 (fun g hg => (hW.sh hg).2) (fun i h1 h2 => by unfold vst; rw [vset_off (by omega), vset_off (by omega)])
      refine zj_aload0 (n := 66) rfl dX9_drain_65 ?_
      refine zj_getr (n := 69) (q := 0) rfl dX9_drain_66 zf_X9_33 rfl (by decide) (by decide) rfl ?_
      refine zj_getr (n := 72) (q := 1) rfl dX9_drain_69 zf_X9_123 rfl (by decide) (by decide) rfl ?_
      refine zj_iload1 (n := 73) rfl dX9_drain_72 ?_
      refine zj_iconstN_4 (n := 74) rfl dX9_drain_73 ?_
      have hn2 : n < vst v n 2 6 := by unfold vst; rw [vset_off (by omega), vset_off (by omega)]; exact hn
      refine zj_callV2 (n := 77) (a' := 0) (b' := 0) rfl dX9_drain_74 zm_X9_126 (by decide) (by decide) rfl (Nat.le_of_ble_eq_true rfl) (Nat.le_of_ble_eq_true rfl) (Nat.le_of_ble_eq_true rfl) (Nat.le_of_ble_eq_true rfl) (jT_get hR2.n.1 hn2 (by decide) (hR2.n.c4 hn2) ?_)
      refine zj_ireturn dX9_drain_77 rfl rfl ?_
      subst c18
      simp only [xn_at (show n < 2 ^ 31 by omega)] at h
      have h := h (by simp only [a_drain, c2, xn_at (show n < 2 ^ 31 by omega), if_true, if_false, Bool.false_eq_true]; rw [if_pos c26]) M2 hm2 hC2 hU2
      simp only [a_drain, c2, xn_at (show n < 2 ^ 31 by omega), if_true, if_false, Bool.false_eq_true] at h
      rw [if_pos c26] at h
      refine zQi h ?_
      exact congrArg nI e9.symm
theorem zMn.ofA {M M' : zM} (h : zAf 105 M M') : zMn M M' := ⟨fun a _ _ h3 => h.1 a (by omega) (by omega) (by omega), fun c h1 _ _ => h.2.1 c h1, h.2.2⟩
theorem zMn.ofV {M M' : zM} (h : zRv 0 105 M M') : zMn M M' := ⟨fun a h1 _ h3 => h.1 a (by omega) (by omega) (by omega) (by omega), fun c h1 _ _ => h.2.1 c h1, h.2.2⟩
theorem zHd.b {M : zM} {u : Nat} {v : zV} (h : zHd M u v) : zMb M u (voffer v 0) (vord v 0) := h.1
theorem zCl.rd {M M2 M3 : zM} {v : zV} (h : zCl M v) (hA : zAf 105 M M2) (hV : zRv 0 105 M2 M3) (hR : zRg M3 0 (vround v)) (hO : zAo M3 105) : zCl M3 (vround v) := ⟨hR, h.2.1.cg (fun a h1 h2 => (hV.1 a (by omega) (by omega) (by omega) (by omega)).trans (hA.1 a (by omega) (by omega) (by omega))), hO, h.2.2.2.cg ((hV.1 114 (by omega) (by decide) (by decide) (by decide)).trans (hA.1 114 (by decide) (by decide) (by decide)))⟩
theorem zUd.rd {M M2 M3 : zM} {un : Nat} {uv : Nat → zV} (h : zUd M un uv) (hA : zAf 105 M M2) (hV : zRv 0 105 M2 M3) : zUd M3 un uv := h.cg (fun a ha => (hV.1 a (by omega) (by omega) (by omega) (by omega)).trans (hA.1 a (by omega) (by omega) (by omega)))
theorem jX9_round {v : zV}  {un : Nat} {uv : Nat → zV} {Q : Option Value → zM → Prop} {X : String → zM → Prop} {M : zM} (hC : zCl M v) (hW : zWF v) (hU : zUd M un uv) (h : (a_round v).1 = 0 → ∀ M', zMn M M' → zCl M' (vround v) → zUd M' (vkN un) (vkU un uv v) → Q (some (.int (a_round v).2)) M') : zJ yX9_round cX9_round 1 (some .int) rX9_round Q X rX9_round.cells rX9_round.slots 0 (zEnt 1 [.ref 99]) [] M := by
  have hR := hC.1
  have h6 := hW.nN
  have h7 := hW.tN
  have h8 := hW.gN
  have h9 := hW.hN
  show zJ yX9_round cX9_round 1 (some .int) rX9_round Q X 0 0 0 [some (.ref 99)] [] M
  refine zj_aload0 (n := 1) rfl dX9_round_0 ?_
  refine zj_getr (n := 4) (q := 116) rfl dX9_round_1 zf_X9_54 rfl (by decide) (by decide) rfl ?_
  refine zj_aload0 (n := 5) rfl dX9_round_4 ?_
  refine zj_getr (n := 8) (q := 0) rfl dX9_round_5 zf_X9_33 rfl (by decide) (by decide) rfl ?_
  refine zj_callV1 (n := 11) (a' := 0) (b' := 0) rfl dX9_round_8 zm_X9_83 (by decide) (by decide) rfl (Nat.le_of_ble_eq_true rfl) (Nat.le_of_ble_eq_true rfl) (Nat.le_of_ble_eq_true rfl) (Nat.le_of_ble_eq_true rfl) (jX8_keep hU hR hW ?_)
  intro M1 hF1 hL1 hU1
  have hC1 := hC.kp hF1
  have hR1 := hC1.1
  have hm1 := zMn.kp hF1 hL1
  refine zj_aload0 (n := 12) rfl dX9_round_11 ?_
  refine zj_getr (n := 15) (q := 105) rfl dX9_round_12 zf_X9_40 rfl (by decide) (by decide) rfl ?_
  refine zj_aload0 (n := 16) rfl dX9_round_15 ?_
  refine zj_getr (n := 19) (q := 0) rfl dX9_round_16 zf_X9_33 rfl (by decide) (by decide) rfl ?_
  refine zj_callV1 (n := 22) (a' := 0) (b' := 0) rfl dX9_round_19 zm_X9_209 (by decide) (by decide) rfl (Nat.le_of_ble_eq_true rfl) (Nat.le_of_ble_eq_true rfl) (Nat.le_of_ble_eq_true rfl) (Nat.le_of_ble_eq_true rfl) (jX0_hold hC1.2.2.1 hC1.1 hW ?_)
  intro M2 hA2 hH2
  have hR2 := hA2.rg hC1.2.2.1.1 hC1.1
  refine zj_aload0 (n := 23) rfl dX9_round_22 ?_
  refine zj_getr (n := 26) (q := 105) rfl dX9_round_23 zf_X9_40 rfl (by decide) (by decide) rfl ?_
  refine zj_aload0 (n := 27) rfl dX9_round_26 ?_
  refine zj_getr (n := 30) (q := 0) rfl dX9_round_27 zf_X9_33 rfl (by decide) (by decide) rfl ?_
  refine zj_callV1 (n := 33) (a' := 0) (b' := 0) rfl dX9_round_30 zm_X9_233 (by decide) (by decide) rfl (Nat.le_of_ble_eq_true rfl) (Nat.le_of_ble_eq_true rfl) (Nat.le_of_ble_eq_true rfl) (Nat.le_of_ble_eq_true rfl) (jX0_settle hC1.2.2.1.1 hR2 hW hH2 ?_)
  intro M3 hV3 hR3 hs3 hr3 hp3 hO3
  have hC3 := hC1.rd hA2 hV3 hR3 hO3
  have hm3 := (hm1.tr (zMn.ofA hA2)).tr (zMn.ofV hV3)
  have hU3 := hU1.rd hA2 hV3
  refine zj_aload0 (n := 34) rfl dX9_round_33 ?_
  refine zj_getr (n := 37) (q := 105) rfl dX9_round_34 zf_X9_40 rfl (by decide) (by decide) rfl ?_
  refine zj_getiN (e := vsold v) (n := 40) rfl dX9_round_37 zf_X9_236 rfl (by decide) (by decide) hs3 ?_
  exact zj_ireturn dX9_round_40 rfl rfl (h rfl M3 hm3 hC3 hU3)
theorem zin2_t {x : Int32} {lo hi : Nat} (h1 : ¬ x < nI lo) (h2 : ¬ nI hi < x) : zin2 x lo hi = true := decide_eq_true ⟨Int32.not_lt.mp h1, Int32.not_lt.mp h2⟩
theorem zin2_f1 {x : Int32} {lo hi : Nat} (h1 : x < nI lo) : zin2 x lo hi = false := decide_eq_false (fun q => Int32.not_lt.mpr q.1 h1)
theorem zin2_f2 {x : Int32} {lo hi : Nat} (h1 : nI hi < x) : zin2 x lo hi = false := decide_eq_false (fun q => Int32.not_lt.mpr q.2 h1)
theorem jX9_rounds {v : zV} {x : Int32} {un : Nat} {uv : Nat → zV} {Q : Option Value → zM → Prop} {X : String → zM → Prop} {M : zM} (hC : zCl M v) (hW : zWF v) (hU : zUd M un uv) (hx1 : (a_rounds v x).1 = 1 → X "java/lang/IllegalArgumentException" M) (h : (a_rounds v x).1 = 0 → ∀ M', zMn M M' → zCl M' (vrs v (xn x)) → zUd M' (vkN un) (vkU un uv v) → Q (some (.int (a_rounds v x).2)) M') : zJ yX9_rounds cX9_rounds 4 (some .int) rX9_rounds Q X rX9_rounds.cells rX9_rounds.slots 0 (zEnt 4 [.ref 99, .int x]) [] M := by
  have hR := hC.1
  have h6 := hW.nN
  have h7 := hW.tN
  have h8 := hW.gN
  have h9 := hW.hN
  show zJ yX9_rounds cX9_rounds 4 (some .int) rX9_rounds Q X 1 6 0 [some (.ref 99), some (.int x), none, none] [] M
  refine zj_iload1 (n := 1) rfl dX9_rounds_0 ?_
  refine zj_iconstN_1 (n := 2) rfl dX9_rounds_1 ?_
  refine zj_icmp_lt (n := 5) (tgt := 15) rfl dX9_rounds_2 (by decide) (fun c2 => ?_) (fun c2 => ?_)
  · refine zj_iconstN_0 (n := 16) rfl dX9_rounds_15 ?_
    refine zj_callS1 (n := 19) (a' := 0) (b' := 0) rfl dX9_rounds_16 zm_X9_72 (by decide) (Nat.le_of_ble_eq_true rfl) (Nat.le_of_ble_eq_true rfl) (Nat.le_of_ble_eq_true rfl) (Nat.le_of_ble_eq_true rfl) (jX9_needArgument (p := false) (fun q => by cases q) (fun _ => hx1 (by simp [a_rounds, zin2_f1 (hi := 100) c2])))
  · refine zj_iload1 (n := 6) rfl dX9_rounds_5 ?_
    refine zj_bipushN (v := 100) (n := 8) rfl dX9_rounds_6 (by decide) ?_
    refine zj_icmp_gt (n := 11) (tgt := 15) rfl dX9_rounds_8 (by decide) (fun c8 => ?_) (fun c8 => ?_)
    · refine zj_iconstN_0 (n := 16) rfl dX9_rounds_15 ?_
      refine zj_callS1 (n := 19) (a' := 0) (b' := 0) rfl dX9_rounds_16 zm_X9_72 (by decide) (Nat.le_of_ble_eq_true rfl) (Nat.le_of_ble_eq_true rfl) (Nat.le_of_ble_eq_true rfl) (Nat.le_of_ble_eq_true rfl) (jX9_needArgument (p := false) (fun q => by cases q) (fun _ => hx1 (by simp [a_rounds, zin2_f2 (lo := 1) c8])))
    · refine zj_iconstN_1 (n := 12) rfl dX9_rounds_11 ?_
      refine zj_goto (tgt := 16) dX9_rounds_12 (by decide) ?_
      refine zj_callS1 (n := 19) (a' := 0) (b' := 0) rfl dX9_rounds_16 zm_X9_72 (by decide) (Nat.le_of_ble_eq_true rfl) (Nat.le_of_ble_eq_true rfl) (Nat.le_of_ble_eq_true rfl) (Nat.le_of_ble_eq_true rfl) (jX9_needArgument (p := true) (fun _ => ?_) (fun q => by cases q))
      have d2 : zin2 x 1 100 = true := zin2_t c2 c8
      obtain ⟨n, hn1, hn2, rfl⟩ := (zin2_iff (by decide) (by decide)).mp d2
      refine zj_aload0 (n := 20) rfl dX9_rounds_19 ?_
      refine zj_getr (n := 23) (q := 116) rfl dX9_rounds_20 zf_X9_54 rfl (by decide) (by decide) rfl ?_
      refine zj_aload0 (n := 24) rfl dX9_rounds_23 ?_
      refine zj_getr (n := 27) (q := 0) rfl dX9_rounds_24 zf_X9_33 rfl (by decide) (by decide) rfl ?_
      refine zj_callV1 (n := 30) (a' := 0) (b' := 0) rfl dX9_rounds_27 zm_X9_83 (by decide) (by decide) rfl (Nat.le_of_ble_eq_true rfl) (Nat.le_of_ble_eq_true rfl) (Nat.le_of_ble_eq_true rfl) (Nat.le_of_ble_eq_true rfl) (jX8_keep hU hR hW ?_)
      intro M1 hF1 hL1 hU1
      have hC1 := hC.kp hF1
      have hR1 := hC1.1
      have hm1 := zMn.kp hF1 hL1
      refine zj_iconstN_0 (n := 31) rfl dX9_rounds_30 ?_
      refine zj_istore2 (n := 32) rfl dX9_rounds_31 rfl (Nat.le_of_ble_eq_true rfl) ?_
      refine zj_iconstN_0 (n := 33) rfl dX9_rounds_32 ?_
      refine zj_istore3 (n := 34) rfl dX9_rounds_33 rfl (Nat.le_of_ble_eq_true rfl) ?_
      refine zFor_rule (P := fun k (_ : Unit) => ∀ M5, zMn M M5 → zCl M5 (vrs v k) → zUd M5 (vkN un) (vkU un uv v) → zJ yX9_rounds cX9_rounds 4 (some .int) rX9_rounds Q X 0 0 34 [some (.ref 99), some (.int (nI n)), some (.int (nI (vsum (fun k => vrepd (vrs v k)) k))), some (.int (nI k))] [] M5) (n := n) (f := fun _ s => s) (s0 := ()) ?_ ?_ M1 hm1 hC1 hU1
      · intro k _ hk9 hk M5 hm5 hC5 hU5
        refine zj_iload3 (n := 35) rfl dX9_rounds_34 ?_
        refine zj_iload1 (n := 36) rfl dX9_rounds_35 ?_
        refine zj_icmpN_ge (n := 39) (tgt := 77) rfl dX9_rounds_36 (by decide) (by omega) (by omega) (fun c36 => by omega) (fun c36 => ?_)
        refine zj_aload0 (n := 40) rfl dX9_rounds_39 ?_
        refine zj_getr (n := 43) (q := 105) rfl dX9_rounds_40 zf_X9_40 rfl (by decide) (by decide) rfl ?_
        refine zj_aload0 (n := 44) rfl dX9_rounds_43 ?_
        refine zj_getr (n := 47) (q := 0) rfl dX9_rounds_44 zf_X9_33 rfl (by decide) (by decide) rfl ?_
        refine zj_callV1 (n := 50) (a' := 0) (b' := 0) rfl dX9_rounds_47 zm_X9_209 (by decide) (by decide) rfl (Nat.le_of_ble_eq_true rfl) (Nat.le_of_ble_eq_true rfl) (Nat.le_of_ble_eq_true rfl) (Nat.le_of_ble_eq_true rfl) (jX0_hold hC5.2.2.1 hC5.1 (vrs_wf hW k) ?_)
        intro M2 hA2 hH2
        have hR2 := hA2.rg hC5.2.2.1.1 hC5.1
        refine zj_aload0 (n := 51) rfl dX9_rounds_50 ?_
        refine zj_getr (n := 54) (q := 105) rfl dX9_rounds_51 zf_X9_40 rfl (by decide) (by decide) rfl ?_
        refine zj_aload0 (n := 55) rfl dX9_rounds_54 ?_
        refine zj_getr (n := 58) (q := 0) rfl dX9_rounds_55 zf_X9_33 rfl (by decide) (by decide) rfl ?_
        refine zj_callV1 (n := 61) (a' := 0) (b' := 0) rfl dX9_rounds_58 zm_X9_233 (by decide) (by decide) rfl (Nat.le_of_ble_eq_true rfl) (Nat.le_of_ble_eq_true rfl) (Nat.le_of_ble_eq_true rfl) (Nat.le_of_ble_eq_true rfl) (jX0_settle hC5.2.2.1.1 hR2 (vrs_wf hW k) hH2 ?_)
        intro M3 hV3 hR3 hs3 hr3 hp3 hO3
        have hC3 := hC5.rd hA2 hV3 hR3 hO3
        have hm3 := (hm5.tr (zMn.ofA hA2)).tr (zMn.ofV hV3)
        have hU3 := hU5.rd hA2 hV3
        refine zj_iload2 (n := 62) rfl dX9_rounds_61 ?_
        refine zj_aload0 (n := 63) rfl dX9_rounds_62 ?_
        refine zj_getr (n := 66) (q := 105) rfl dX9_rounds_63 zf_X9_40 rfl (by decide) (by decide) rfl ?_
        refine zj_getiN (e := vrepd (vrs v k)) (n := 69) rfl dX9_rounds_66 zf_X9_239 rfl (by decide) (by decide) hr3 ?_
        refine zj_iaddN (n := 70) rfl dX9_rounds_69 ?_
        refine zj_istore2 (n := 71) rfl dX9_rounds_70 rfl (Nat.le_of_ble_eq_true rfl) ?_
        refine zj_iincN3 (n := 74) rfl dX9_rounds_71 rfl (Nat.le_of_ble_eq_true rfl) ?_
        refine zj_goto (tgt := 34) dX9_rounds_74 (by decide) ?_
        exact hk M3 hm3 hC3 hU3
      · intro M5 hm5 hC5 hU5
        refine zj_iload3 (n := 35) rfl dX9_rounds_34 ?_
        refine zj_iload1 (n := 36) rfl dX9_rounds_35 ?_
        refine zj_icmpN_ge (n := 39) (tgt := 77) rfl dX9_rounds_36 (by decide) (by omega) (by omega) (fun c36 => ?_) (fun c36 => by omega)
        refine zj_iload2 (n := 78) rfl dX9_rounds_77 ?_
        refine zj_ireturn dX9_rounds_78 rfl rfl ?_
        simp only [xn_at (show n < 2 ^ 31 by omega)] at h
        have h := h (by simp only [a_rounds, d2, if_true]) M5 hm5 hC5 hU5
        simp only [a_rounds, d2, if_true, xn_at (show n < 2 ^ 31 by omega)] at h
        exact h
theorem jX9_setRisk {v : zV} {x : Int32} {z : Int32} {un : Nat} {uv : Nat → zV} {Q : Option Value → zM → Prop} {X : String → zM → Prop} {M : zM} (hC : zCl M v) (hW : zWF v) (hU : zUd M un uv) (hx1 : (a_setRisk v x z).1 = 1 → X "java/lang/IndexOutOfBoundsException" M) (hx2 : (a_setRisk v x z).1 = 2 → X "java/lang/IllegalArgumentException" M) (h : (a_setRisk v x z).1 = 0 → ∀ M', zMn M M' → zCl M' (vset v (10 + 12 * xn x + 2) (xn z)) → zUd M' (vkN un) (vkU un uv v) → Q (some (.int (a_setRisk v x z).2)) M') : zJ yX9_setRisk cX9_setRisk 4 (some .int) rX9_setRisk Q X rX9_setRisk.cells rX9_setRisk.slots 0 (zEnt 4 [.ref 99, .int x, .int z]) [] M := by
  have hR := hC.1
  have h6 := hW.nN
  have h7 := hW.tN
  have h8 := hW.gN
  have h9 := hW.hN
  show zJ yX9_setRisk cX9_setRisk 4 (some .int) rX9_setRisk Q X 2 12 0 [some (.ref 99), some (.int x), some (.int z), none] [] M
  refine zj_aload0 (n := 1) rfl dX9_setRisk_0 ?_
  refine zj_iload1 (n := 2) rfl dX9_setRisk_1 ?_
  refine zj_callV1 (n := 5) (a' := 1) (b' := 6) rfl dX9_setRisk_2 zm_X9_120 (by decide) (by decide) rfl (Nat.le_of_ble_eq_true rfl) (Nat.le_of_ble_eq_true rfl) (Nat.le_of_ble_eq_true rfl) (Nat.le_of_ble_eq_true rfl) (jX9_needNode hR (fun c2 => ?_) (fun c2 => hx1 (by simp [a_setRisk, c2])))
  obtain ⟨n, hn, rfl⟩ := (zin_iff (by omega)).mp c2
  refine zj_iload2 (n := 6) rfl dX9_setRisk_5 ?_
  refine zj_if_lt (n := 9) (tgt := 20) rfl dX9_setRisk_6 (by decide) (fun c6 => ?_) (fun c6 => ?_)
  · refine zj_iconstN_0 (n := 21) rfl dX9_setRisk_20 ?_
    refine zj_callS1 (n := 24) (a' := 0) (b' := 0) rfl dX9_setRisk_21 zm_X9_72 (by decide) (Nat.le_of_ble_eq_true rfl) (Nat.le_of_ble_eq_true rfl) (Nat.le_of_ble_eq_true rfl) (Nat.le_of_ble_eq_true rfl) (jX9_needArgument (p := false) (fun q => by cases q) (fun _ => hx2 (by simp [a_setRisk, c2, zin_f1 c6])))
  · refine zj_iload2 (n := 10) rfl dX9_setRisk_9 ?_
    refine zj_sipushN (v := 1000) (n := 13) rfl dX9_setRisk_10 (by decide) ?_
    refine zj_icmp_ge (n := 16) (tgt := 20) rfl dX9_setRisk_13 (by decide) (fun c13 => ?_) (fun c13 => ?_)
    · refine zj_iconstN_0 (n := 21) rfl dX9_setRisk_20 ?_
      refine zj_callS1 (n := 24) (a' := 0) (b' := 0) rfl dX9_setRisk_21 zm_X9_72 (by decide) (Nat.le_of_ble_eq_true rfl) (Nat.le_of_ble_eq_true rfl) (Nat.le_of_ble_eq_true rfl) (Nat.le_of_ble_eq_true rfl) (jX9_needArgument (p := false) (fun q => by cases q) (fun _ => hx2 (by simp [a_setRisk, c2, zin_f2 (n := 1000) c13])))
    · refine zj_iconstN_1 (n := 17) rfl dX9_setRisk_16 ?_
      refine zj_goto (tgt := 21) dX9_setRisk_17 (by decide) ?_
      refine zj_callS1 (n := 24) (a' := 0) (b' := 0) rfl dX9_setRisk_21 zm_X9_72 (by decide) (Nat.le_of_ble_eq_true rfl) (Nat.le_of_ble_eq_true rfl) (Nat.le_of_ble_eq_true rfl) (Nat.le_of_ble_eq_true rfl) (jX9_needArgument (p := true) (fun _ => ?_) (fun q => by cases q))
      have d2 : zin z 1000 = true := zin_t c6 c13
      obtain ⟨k, hk, rfl⟩ := (zin_iff (by decide)).mp d2
      refine zj_aload0 (n := 25) rfl dX9_setRisk_24 ?_
      refine zj_getr (n := 28) (q := 116) rfl dX9_setRisk_25 zf_X9_54 rfl (by decide) (by decide) rfl ?_
      refine zj_aload0 (n := 29) rfl dX9_setRisk_28 ?_
      refine zj_getr (n := 32) (q := 0) rfl dX9_setRisk_29 zf_X9_33 rfl (by decide) (by decide) rfl ?_
      refine zj_callV1 (n := 35) (a' := 0) (b' := 0) rfl dX9_setRisk_32 zm_X9_83 (by decide) (by decide) rfl (Nat.le_of_ble_eq_true rfl) (Nat.le_of_ble_eq_true rfl) (Nat.le_of_ble_eq_true rfl) (Nat.le_of_ble_eq_true rfl) (jX8_keep hU hR hW ?_)
      intro M1 hF1 hL1 hU1
      have hC1 := hC.kp hF1
      have hR1 := hC1.1
      have hm1 := zMn.kp hF1 hL1
      refine zj_aload0 (n := 36) rfl dX9_setRisk_35 ?_
      refine zj_getr (n := 39) (q := 0) rfl dX9_setRisk_36 zf_X9_33 rfl (by decide) (by decide) rfl ?_
      refine zj_getr (n := 42) (q := 1) rfl dX9_setRisk_39 zf_X9_123 rfl (by decide) (by decide) rfl ?_
      refine zj_iload1 (n := 43) rfl dX9_setRisk_42 ?_
      refine zj_iconstN_2 (n := 44) rfl dX9_setRisk_43 ?_
      refine zj_callV2 (n := 47) (a' := 0) (b' := 0) rfl dX9_setRisk_44 zm_X9_126 (by decide) (by decide) rfl (Nat.le_of_ble_eq_true rfl) (Nat.le_of_ble_eq_true rfl) (Nat.le_of_ble_eq_true rfl) (Nat.le_of_ble_eq_true rfl) (jT_get hR1.n.1 (by omega) (by decide) (hR1.n.c2 (by omega)) ?_)
      refine zj_istore3 (n := 48) rfl dX9_setRisk_47 rfl (Nat.le_of_ble_eq_true rfl) ?_
      refine zj_aload0 (n := 49) rfl dX9_setRisk_48 ?_
      refine zj_getr (n := 52) (q := 0) rfl dX9_setRisk_49 zf_X9_33 rfl (by decide) (by decide) rfl ?_
      refine zj_getr (n := 55) (q := 1) rfl dX9_setRisk_52 zf_X9_123 rfl (by decide) (by decide) rfl ?_
      refine zj_iload1 (n := 56) rfl dX9_setRisk_55 ?_
      refine zj_iconstN_2 (n := 57) rfl dX9_setRisk_56 ?_
      refine zj_iload2 (n := 58) rfl dX9_setRisk_57 ?_
      refine zj_callV3 (n := 61) (a' := 0) (b' := 0) rfl dX9_setRisk_58 zm_X9_242 (by decide) (by decide) rfl (Nat.le_of_ble_eq_true rfl) (Nat.le_of_ble_eq_true rfl) (Nat.le_of_ble_eq_true rfl) (Nat.le_of_ble_eq_true rfl) (jT_set hR1.n.1 hn (by decide) ?_)
      have hR2 := hR1.setN (n := n) (x := k) hW hn (Or.inl ⟨rfl, rfl⟩)
      generalize e9 : (zU M1.1 (0 + 1 + 1) (n * 8 + 2) (nI k), M1.2) = M2 at hR2
      have hF2 : ∀ a, 8 < a → M2.1 a = M1.1 a := fun a ha => by rw [← e9]; exact zU_off (by omega)
      have hL2 : M2.2 = M1.2 := by rw [← e9]
      clear e9
      have hC2 := hC1.wr (fun a ha => hF2 a (by omega)) hR2
      have hm2 := hm1.wr (fun a ha => hF2 a (by omega)) hL2
      have hU2 := hU1.wr (fun a ha => hF2 a (by omega))
      refine zj_iload3 (n := 62) rfl dX9_setRisk_61 ?_
      refine zj_ireturn dX9_setRisk_62 rfl rfl ?_
      simp only [xn_at (show n < 2 ^ 31 by omega), xn_at (show k < 2 ^ 31 by omega)] at h
      have h := h (by simp only [a_setRisk, c2, d2, xn_at (show n < 2 ^ 31 by omega), xn_at (show k < 2 ^ 31 by omega), if_true, if_false, Bool.false_eq_true, Bool.and_true, Bool.true_and]) M2 hm2 hC2 hU2
      simp only [a_setRisk, c2, d2, xn_at (show n < 2 ^ 31 by omega), xn_at (show k < 2 ^ 31 by omega), if_true, if_false, Bool.false_eq_true, Bool.and_true, Bool.true_and] at h
      exact h
theorem jX9_setBandwidth {v : zV} {x : Int32} {un : Nat} {uv : Nat → zV} {Q : Option Value → zM → Prop} {X : String → zM → Prop} {M : zM} (hC : zCl M v) (hW : zWF v) (hU : zUd M un uv) (hx1 : (a_setBandwidth v x).1 = 1 → X "java/lang/IllegalArgumentException" M) (h : (a_setBandwidth v x).1 = 0 → ∀ M', zMn M M' → zCl M' (vset v 0 (xn x)) → zUd M' (vkN un) (vkU un uv v) → Q (some (.int (a_setBandwidth v x).2)) M') : zJ yX9_setBandwidth cX9_setBandwidth 3 (some .int) rX9_setBandwidth Q X rX9_setBandwidth.cells rX9_setBandwidth.slots 0 (zEnt 3 [.ref 99, .int x]) [] M := by
  have hR := hC.1
  have h6 := hW.nN
  have h7 := hW.tN
  have h8 := hW.gN
  have h9 := hW.hN
  show zJ yX9_setBandwidth cX9_setBandwidth 3 (some .int) rX9_setBandwidth Q X 1 6 0 [some (.ref 99), some (.int x), none] [] M
  refine zj_iload1 (n := 1) rfl dX9_setBandwidth_0 ?_
  refine zj_iconstN_1 (n := 2) rfl dX9_setBandwidth_1 ?_
  refine zj_icmp_lt (n := 5) (tgt := 15) rfl dX9_setBandwidth_2 (by decide) (fun c2 => ?_) (fun c2 => ?_)
  · refine zj_iconstN_0 (n := 16) rfl dX9_setBandwidth_15 ?_
    refine zj_callS1 (n := 19) (a' := 0) (b' := 0) rfl dX9_setBandwidth_16 zm_X9_72 (by decide) (Nat.le_of_ble_eq_true rfl) (Nat.le_of_ble_eq_true rfl) (Nat.le_of_ble_eq_true rfl) (Nat.le_of_ble_eq_true rfl) (jX9_needArgument (p := false) (fun q => by cases q) (fun _ => hx1 (by simp [a_setBandwidth, zin2_f1 (hi := 99999) c2])))
  · refine zj_iload1 (n := 6) rfl dX9_setBandwidth_5 ?_
    refine zj_ldcN (v := 99999) (n := 8) rfl dX9_setBandwidth_6 zc_X9_246 ?_
    refine zj_icmp_gt (n := 11) (tgt := 15) rfl dX9_setBandwidth_8 (by decide) (fun c8 => ?_) (fun c8 => ?_)
    · refine zj_iconstN_0 (n := 16) rfl dX9_setBandwidth_15 ?_
      refine zj_callS1 (n := 19) (a' := 0) (b' := 0) rfl dX9_setBandwidth_16 zm_X9_72 (by decide) (Nat.le_of_ble_eq_true rfl) (Nat.le_of_ble_eq_true rfl) (Nat.le_of_ble_eq_true rfl) (Nat.le_of_ble_eq_true rfl) (jX9_needArgument (p := false) (fun q => by cases q) (fun _ => hx1 (by simp [a_setBandwidth, zin2_f2 (lo := 1) c8])))
    · refine zj_iconstN_1 (n := 12) rfl dX9_setBandwidth_11 ?_
      refine zj_goto (tgt := 16) dX9_setBandwidth_12 (by decide) ?_
      refine zj_callS1 (n := 19) (a' := 0) (b' := 0) rfl dX9_setBandwidth_16 zm_X9_72 (by decide) (Nat.le_of_ble_eq_true rfl) (Nat.le_of_ble_eq_true rfl) (Nat.le_of_ble_eq_true rfl) (Nat.le_of_ble_eq_true rfl) (jX9_needArgument (p := true) (fun _ => ?_) (fun q => by cases q))
      have d2 : zin2 x 1 99999 = true := zin2_t c2 c8
      obtain ⟨n, hn1, hn2, rfl⟩ := (zin2_iff (by decide) (by decide)).mp d2
      refine zj_aload0 (n := 20) rfl dX9_setBandwidth_19 ?_
      refine zj_getr (n := 23) (q := 116) rfl dX9_setBandwidth_20 zf_X9_54 rfl (by decide) (by decide) rfl ?_
      refine zj_aload0 (n := 24) rfl dX9_setBandwidth_23 ?_
      refine zj_getr (n := 27) (q := 0) rfl dX9_setBandwidth_24 zf_X9_33 rfl (by decide) (by decide) rfl ?_
      refine zj_callV1 (n := 30) (a' := 0) (b' := 0) rfl dX9_setBandwidth_27 zm_X9_83 (by decide) (by decide) rfl (Nat.le_of_ble_eq_true rfl) (Nat.le_of_ble_eq_true rfl) (Nat.le_of_ble_eq_true rfl) (Nat.le_of_ble_eq_true rfl) (jX8_keep hU hR hW ?_)
      intro M1 hF1 hL1 hU1
      have hC1 := hC.kp hF1
      have hR1 := hC1.1
      have hm1 := zMn.kp hF1 hL1
      refine zj_aload0 (n := 31) rfl dX9_setBandwidth_30 ?_
      refine zj_getr (n := 34) (q := 0) rfl dX9_setBandwidth_31 zf_X9_33 rfl (by decide) (by decide) rfl ?_
      refine zj_getiN (e := v 0) (n := 37) rfl dX9_setBandwidth_34 zf_X9_247 rfl (by decide) (by decide) (hR1.s 0 (by decide)) ?_
      refine zj_istore2 (n := 38) rfl dX9_setBandwidth_37 rfl (Nat.le_of_ble_eq_true rfl) ?_
      refine zj_aload0 (n := 39) rfl dX9_setBandwidth_38 ?_
      refine zj_getr (n := 42) (q := 0) rfl dX9_setBandwidth_39 zf_X9_33 rfl (by decide) (by decide) rfl ?_
      refine zj_iload1 (n := 43) rfl dX9_setBandwidth_42 ?_
      refine zj_puti (n := 46) rfl dX9_setBandwidth_43 zp_X9_247 rfl (by decide) (by decide) ?_
      refine zj_iload2 (n := 47) rfl dX9_setBandwidth_46 ?_
      refine zj_ireturn dX9_setBandwidth_47 rfl rfl ?_
      have hR2 := hR1.setS (j := 0) (x := n) hW (by decide)
      have hC2 := hC1.wr (M1 := (zU M1.1 0 4 (nI n), M1.2)) (fun a ha => zU_off (by omega)) hR2
      have hm2 := hm1.wr (M2 := (zU M1.1 0 4 (nI n), M1.2)) (fun a ha => zU_off (by omega)) rfl
      have hU2 := hU1.wr (M1 := (zU M1.1 0 4 (nI n), M1.2)) (fun a ha => zU_off (by omega))
      simp only [xn_at (show n < 2 ^ 31 by omega)] at h
      have h := h (by simp only [a_setBandwidth, d2, if_true]) _ hm2 hC2 hU2
      simp only [a_setBandwidth, d2, if_true] at h
      exact h
theorem jX9_setRule {v : zV} {x : Int32} {un : Nat} {uv : Nat → zV} {Q : Option Value → zM → Prop} {X : String → zM → Prop} {M : zM} (hC : zCl M v) (hW : zWF v) (hU : zUd M un uv) (hx1 : (a_setRule v x).1 = 1 → X "java/lang/IllegalArgumentException" M) (h : (a_setRule v x).1 = 0 → ∀ M', zMn M M' → zCl M' (vset v 3 (xn x)) → zUd M' (vkN un) (vkU un uv v) → Q (some (.int (a_setRule v x).2)) M') : zJ yX9_setRule cX9_setRule 3 (some .int) rX9_setRule Q X rX9_setRule.cells rX9_setRule.slots 0 (zEnt 3 [.ref 99, .int x]) [] M := by
  have hR := hC.1
  have h6 := hW.nN
  have h7 := hW.tN
  have h8 := hW.gN
  have h9 := hW.hN
  show zJ yX9_setRule cX9_setRule 3 (some .int) rX9_setRule Q X 1 6 0 [some (.ref 99), some (.int x), none] [] M
  refine zj_iload1 (n := 1) rfl dX9_setRule_0 ?_
  refine zj_if_lt (n := 4) (tgt := 13) rfl dX9_setRule_1 (by decide) (fun c1 => ?_) (fun c1 => ?_)
  · refine zj_iconstN_0 (n := 14) rfl dX9_setRule_13 ?_
    refine zj_callS1 (n := 17) (a' := 0) (b' := 0) rfl dX9_setRule_14 zm_X9_72 (by decide) (Nat.le_of_ble_eq_true rfl) (Nat.le_of_ble_eq_true rfl) (Nat.le_of_ble_eq_true rfl) (Nat.le_of_ble_eq_true rfl) (jX9_needArgument (p := false) (fun q => by cases q) (fun _ => hx1 (by simp [a_setRule, zin_f1 c1])))
  · refine zj_iload1 (n := 5) rfl dX9_setRule_4 ?_
    refine zj_iconstN_2 (n := 6) rfl dX9_setRule_5 ?_
    refine zj_icmp_gt (n := 9) (tgt := 13) rfl dX9_setRule_6 (by decide) (fun c6 => ?_) (fun c6 => ?_)
    · refine zj_iconstN_0 (n := 14) rfl dX9_setRule_13 ?_
      refine zj_callS1 (n := 17) (a' := 0) (b' := 0) rfl dX9_setRule_14 zm_X9_72 (by decide) (Nat.le_of_ble_eq_true rfl) (Nat.le_of_ble_eq_true rfl) (Nat.le_of_ble_eq_true rfl) (Nat.le_of_ble_eq_true rfl) (jX9_needArgument (p := false) (fun q => by cases q) (fun _ => hx1 (by simp [a_setRule, zin_fg (k := 2) (by decide) c6])))
    · refine zj_iconstN_1 (n := 10) rfl dX9_setRule_9 ?_
      refine zj_goto (tgt := 14) dX9_setRule_10 (by decide) ?_
      refine zj_callS1 (n := 17) (a' := 0) (b' := 0) rfl dX9_setRule_14 zm_X9_72 (by decide) (Nat.le_of_ble_eq_true rfl) (Nat.le_of_ble_eq_true rfl) (Nat.le_of_ble_eq_true rfl) (Nat.le_of_ble_eq_true rfl) (jX9_needArgument (p := true) (fun _ => ?_) (fun q => by cases q))
      have d2 : zin x 3 = true := zin_g (k := 2) (by decide) c1 c6
      obtain ⟨n, hn, rfl⟩ := (zin_iff (by decide)).mp d2
      refine zj_aload0 (n := 18) rfl dX9_setRule_17 ?_
      refine zj_getr (n := 21) (q := 116) rfl dX9_setRule_18 zf_X9_54 rfl (by decide) (by decide) rfl ?_
      refine zj_aload0 (n := 22) rfl dX9_setRule_21 ?_
      refine zj_getr (n := 25) (q := 0) rfl dX9_setRule_22 zf_X9_33 rfl (by decide) (by decide) rfl ?_
      refine zj_callV1 (n := 28) (a' := 0) (b' := 0) rfl dX9_setRule_25 zm_X9_83 (by decide) (by decide) rfl (Nat.le_of_ble_eq_true rfl) (Nat.le_of_ble_eq_true rfl) (Nat.le_of_ble_eq_true rfl) (Nat.le_of_ble_eq_true rfl) (jX8_keep hU hR hW ?_)
      intro M1 hF1 hL1 hU1
      have hC1 := hC.kp hF1
      have hR1 := hC1.1
      have hm1 := zMn.kp hF1 hL1
      refine zj_aload0 (n := 29) rfl dX9_setRule_28 ?_
      refine zj_getr (n := 32) (q := 0) rfl dX9_setRule_29 zf_X9_33 rfl (by decide) (by decide) rfl ?_
      refine zj_getiN (e := v 3) (n := 35) rfl dX9_setRule_32 zf_X9_250 rfl (by decide) (by decide) (hR1.s 3 (by decide)) ?_
      refine zj_istore2 (n := 36) rfl dX9_setRule_35 rfl (Nat.le_of_ble_eq_true rfl) ?_
      refine zj_aload0 (n := 37) rfl dX9_setRule_36 ?_
      refine zj_getr (n := 40) (q := 0) rfl dX9_setRule_37 zf_X9_33 rfl (by decide) (by decide) rfl ?_
      refine zj_iload1 (n := 41) rfl dX9_setRule_40 ?_
      refine zj_puti (n := 44) rfl dX9_setRule_41 zp_X9_250 rfl (by decide) (by decide) ?_
      refine zj_iload2 (n := 45) rfl dX9_setRule_44 ?_
      refine zj_ireturn dX9_setRule_45 rfl rfl ?_
      have hR2 := hR1.setS (j := 3) (x := n) hW (by decide)
      have hC2 := hC1.wr (M1 := (zU M1.1 0 7 (nI n), M1.2)) (fun a ha => zU_off (by omega)) hR2
      have hm2 := hm1.wr (M2 := (zU M1.1 0 7 (nI n), M1.2)) (fun a ha => zU_off (by omega)) rfl
      have hU2 := hU1.wr (M1 := (zU M1.1 0 7 (nI n), M1.2)) (fun a ha => zU_off (by omega))
      simp only [xn_at (show n < 2 ^ 31 by omega)] at h
      have h := h (by simp only [a_setRule, d2, if_true]) _ hm2 hC2 hU2
      simp only [a_setRule, d2, if_true] at h
      exact h
theorem jX9_grant {v : zV} {x : Int32} {z : Int32} {un : Nat} {uv : Nat → zV} {Q : Option Value → zM → Prop} {X : String → zM → Prop} {M : zM} (hC : zCl M v) (hW : zWF v) (hU : zUd M un uv) (hx1 : (a_grant v x z).1 = 1 → X "java/lang/IndexOutOfBoundsException" M) (hx2 : (a_grant v x z).1 = 2 → X "java/lang/IllegalArgumentException" M) (hx3 : (a_grant v x z).1 = 3 → X "java/lang/IllegalStateException" M) (h : (a_grant v x z).1 = 0 → ∀ M', zMn M M' → zCl M' (vset v (202 + 11 * xn x + 2) (v (202 + 11 * xn x + 2) + xn z)) → zUd M' (vkN un) (vkU un uv v) → Q (some (.int (a_grant v x z).2)) M') : zJ yX9_grant cX9_grant 4 (some .int) rX9_grant Q X rX9_grant.cells rX9_grant.slots 0 (zEnt 4 [.ref 99, .int x, .int z]) [] M := by
  have hR := hC.1
  have h6 := hW.nN
  have h7 := hW.tN
  have h8 := hW.gN
  have h9 := hW.hN
  show zJ yX9_grant cX9_grant 4 (some .int) rX9_grant Q X 3 18 0 [some (.ref 99), some (.int x), some (.int z), none] [] M
  refine zj_aload0 (n := 1) rfl dX9_grant_0 ?_
  refine zj_iload1 (n := 2) rfl dX9_grant_1 ?_
  refine zj_callV1 (n := 5) (a' := 2) (b' := 12) rfl dX9_grant_2 zm_X9_139 (by decide) (by decide) rfl (Nat.le_of_ble_eq_true rfl) (Nat.le_of_ble_eq_true rfl) (Nat.le_of_ble_eq_true rfl) (Nat.le_of_ble_eq_true rfl) (jX9_needTenant hR (fun c2 => ?_) (fun c2 => hx1 (by simp [a_grant, c2])))
  obtain ⟨n, hn, rfl⟩ := (zin_iff (by omega)).mp c2
  have hp2 : v (202 + 11 * n + 2) ≤ 9999999 := (hW.ten hn).2.2.1
  refine zj_iload2 (n := 6) rfl dX9_grant_5 ?_
  refine zj_iconstN_1 (n := 7) rfl dX9_grant_6 ?_
  refine zj_icmp_lt (n := 10) (tgt := 20) rfl dX9_grant_7 (by decide) (fun c7 => ?_) (fun c7 => ?_)
  · refine zj_iconstN_0 (n := 21) rfl dX9_grant_20 ?_
    refine zj_callS1 (n := 24) (a' := 1) (b' := 6) rfl dX9_grant_21 zm_X9_72 (by decide) (Nat.le_of_ble_eq_true rfl) (Nat.le_of_ble_eq_true rfl) (Nat.le_of_ble_eq_true rfl) (Nat.le_of_ble_eq_true rfl) (jX9_needArgument (p := false) (fun q => by cases q) (fun _ => hx2 (by simp [a_grant, c2, zin2_f1 (hi := 999999) c7])))
  · refine zj_iload2 (n := 11) rfl dX9_grant_10 ?_
    refine zj_ldcN (v := 999999) (n := 13) rfl dX9_grant_11 zc_X9_253 ?_
    refine zj_icmp_gt (n := 16) (tgt := 20) rfl dX9_grant_13 (by decide) (fun c13 => ?_) (fun c13 => ?_)
    · refine zj_iconstN_0 (n := 21) rfl dX9_grant_20 ?_
      refine zj_callS1 (n := 24) (a' := 1) (b' := 6) rfl dX9_grant_21 zm_X9_72 (by decide) (Nat.le_of_ble_eq_true rfl) (Nat.le_of_ble_eq_true rfl) (Nat.le_of_ble_eq_true rfl) (Nat.le_of_ble_eq_true rfl) (jX9_needArgument (p := false) (fun q => by cases q) (fun _ => hx2 (by simp [a_grant, c2, zin2_f2 (lo := 1) c13])))
    · refine zj_iconstN_1 (n := 17) rfl dX9_grant_16 ?_
      refine zj_goto (tgt := 21) dX9_grant_17 (by decide) ?_
      refine zj_callS1 (n := 24) (a' := 1) (b' := 6) rfl dX9_grant_21 zm_X9_72 (by decide) (Nat.le_of_ble_eq_true rfl) (Nat.le_of_ble_eq_true rfl) (Nat.le_of_ble_eq_true rfl) (Nat.le_of_ble_eq_true rfl) (jX9_needArgument (p := true) (fun _ => ?_) (fun q => by cases q))
      have d2 : zin2 z 1 999999 = true := zin2_t c7 c13
      obtain ⟨k, hk1, hk2, rfl⟩ := (zin2_iff (by decide) (by decide)).mp d2
      refine zj_aload0 (n := 25) rfl dX9_grant_24 ?_
      refine zj_getr (n := 28) (q := 0) rfl dX9_grant_25 zf_X9_33 rfl (by decide) (by decide) rfl ?_
      refine zj_getr (n := 31) (q := 3) rfl dX9_grant_28 zf_X9_142 rfl (by decide) (by decide) rfl ?_
      refine zj_iload1 (n := 32) rfl dX9_grant_31 ?_
      refine zj_iconstN_2 (n := 33) rfl dX9_grant_32 ?_
      refine zj_callV2 (n := 36) (a' := 1) (b' := 6) rfl dX9_grant_33 zm_X9_126 (by decide) (by decide) rfl (Nat.le_of_ble_eq_true rfl) (Nat.le_of_ble_eq_true rfl) (Nat.le_of_ble_eq_true rfl) (Nat.le_of_ble_eq_true rfl) (jT_get hR.t.1 (by omega) (by decide) (hR.t.c (by omega) (by decide)) ?_)
      refine zj_iload2 (n := 37) rfl dX9_grant_36 ?_
      refine zj_iaddN (n := 38) rfl dX9_grant_37 ?_
      refine zj_istore3 (n := 39) rfl dX9_grant_38 rfl (Nat.le_of_ble_eq_true rfl) ?_
      refine zj_iload3 (n := 40) rfl dX9_grant_39 ?_
      refine zj_ldcN (v := 9999999) (n := 42) rfl dX9_grant_40 zc_X9_254 ?_
      refine zj_icmpN_gt (n := 45) (tgt := 49) rfl dX9_grant_42 (by decide) (by omega) (by omega) (fun c42 => ?_) (fun c42 => ?_)
      · refine zj_iconstN_0 (n := 50) rfl dX9_grant_49 ?_
        refine zj_callS1 (n := 53) (a' := 0) (b' := 0) rfl dX9_grant_50 zm_X9_227 (by decide) (Nat.le_of_ble_eq_true rfl) (Nat.le_of_ble_eq_true rfl) (Nat.le_of_ble_eq_true rfl) (Nat.le_of_ble_eq_true rfl) (jX9_needState (p := false) (fun q => by cases q) (fun _ => hx3 (by simp only [a_grant, c2, d2, xn_at (show n < 2 ^ 31 by omega), xn_at (show k < 2 ^ 31 by omega), if_true]; rw [if_neg (by omega)])))
      · refine zj_iconstN_1 (n := 46) rfl dX9_grant_45 ?_
        refine zj_goto (tgt := 50) dX9_grant_46 (by decide) ?_
        refine zj_callS1 (n := 53) (a' := 0) (b' := 0) rfl dX9_grant_50 zm_X9_227 (by decide) (Nat.le_of_ble_eq_true rfl) (Nat.le_of_ble_eq_true rfl) (Nat.le_of_ble_eq_true rfl) (Nat.le_of_ble_eq_true rfl) (jX9_needState (p := true) (fun _ => ?_) (fun q => by cases q))
        refine zj_aload0 (n := 54) rfl dX9_grant_53 ?_
        refine zj_getr (n := 57) (q := 116) rfl dX9_grant_54 zf_X9_54 rfl (by decide) (by decide) rfl ?_
        refine zj_aload0 (n := 58) rfl dX9_grant_57 ?_
        refine zj_getr (n := 61) (q := 0) rfl dX9_grant_58 zf_X9_33 rfl (by decide) (by decide) rfl ?_
        refine zj_callV1 (n := 64) (a' := 0) (b' := 0) rfl dX9_grant_61 zm_X9_83 (by decide) (by decide) rfl (Nat.le_of_ble_eq_true rfl) (Nat.le_of_ble_eq_true rfl) (Nat.le_of_ble_eq_true rfl) (Nat.le_of_ble_eq_true rfl) (jX8_keep hU hR hW ?_)
        intro M1 hF1 hL1 hU1
        have hC1 := hC.kp hF1
        have hR1 := hC1.1
        have hm1 := zMn.kp hF1 hL1
        refine zj_aload0 (n := 65) rfl dX9_grant_64 ?_
        refine zj_getr (n := 68) (q := 0) rfl dX9_grant_65 zf_X9_33 rfl (by decide) (by decide) rfl ?_
        refine zj_getr (n := 71) (q := 3) rfl dX9_grant_68 zf_X9_142 rfl (by decide) (by decide) rfl ?_
        refine zj_iload1 (n := 72) rfl dX9_grant_71 ?_
        refine zj_iconstN_2 (n := 73) rfl dX9_grant_72 ?_
        refine zj_iload3 (n := 74) rfl dX9_grant_73 ?_
        refine zj_callV3 (n := 77) (a' := 0) (b' := 0) rfl dX9_grant_74 zm_X9_242 (by decide) (by decide) rfl (Nat.le_of_ble_eq_true rfl) (Nat.le_of_ble_eq_true rfl) (Nat.le_of_ble_eq_true rfl) (Nat.le_of_ble_eq_true rfl) (jT_set hR1.t.1 hn (by decide) ?_)
        have hR2 := hR1.setT (t := n) (j := 2) (x := v (202 + 11 * n + 2) + k) hW hn (by decide)
        generalize e9 : (zU M1.1 (0 + 3 + 1) (n * 6 + 2) (nI (v (202 + 11 * n + 2) + k)), M1.2) = M2 at hR2
        have hF2 : ∀ a, 8 < a → M2.1 a = M1.1 a := fun a ha => by rw [← e9]; exact zU_off (by omega)
        have hL2 : M2.2 = M1.2 := by rw [← e9]
        clear e9
        have hC2 := hC1.wr (fun a ha => hF2 a (by omega)) hR2
        have hm2 := hm1.wr (fun a ha => hF2 a (by omega)) hL2
        have hU2 := hU1.wr (fun a ha => hF2 a (by omega))
        refine zj_iload3 (n := 78) rfl dX9_grant_77 ?_
        refine zj_ireturn dX9_grant_78 rfl rfl ?_
        simp only [xn_at (show n < 2 ^ 31 by omega), xn_at (show k < 2 ^ 31 by omega)] at h
        have h := h (by simp only [a_grant, c2, d2, xn_at (show n < 2 ^ 31 by omega), xn_at (show k < 2 ^ 31 by omega), if_true]; rw [if_pos (by omega)]) M2 hm2 hC2 hU2
        simp only [a_grant, c2, d2, xn_at (show n < 2 ^ 31 by omega), xn_at (show k < 2 ^ 31 by omega), if_true] at h
        rw [if_pos (by omega)] at h
        exact h
theorem jX9_undo {v : zV}  {un : Nat} {uv : Nat → zV} {Q : Option Value → zM → Prop} {X : String → zM → Prop} {M : zM} (hC : zCl M v) (hW : zWF v) (hU : zUd M un uv) (hV : ∀ i, i < un → zWF (uv i)) (hx1 : (a_undo un).1 = 1 → X "java/lang/IllegalStateException" M) (h : (a_undo un).1 = 0 → ∀ M', zMn M M' → zCl M' (uv (un - 1)) → zUd M' (un - 1) uv → Q (some (.int (a_undo un).2)) M') : zJ yX9_undo cX9_undo 1 (some .int) rX9_undo Q X rX9_undo.cells rX9_undo.slots 0 (zEnt 1 [.ref 99]) [] M := by
  have hR := hC.1
  have h6 := hW.nN
  have h7 := hW.tN
  have h8 := hW.gN
  have h9 := hW.hN
  have hu8 := hU.1
  have hun : M.1 116 2 = nI un := by obtain ⟨_, _, o, _, _, q, _⟩ := hU; exact q
  show zJ yX9_undo cX9_undo 1 (some .int) rX9_undo Q X 1 6 0 [some (.ref 99)] [] M
  refine zj_aload0 (n := 1) rfl dX9_undo_0 ?_
  refine zj_getr (n := 4) (q := 116) rfl dX9_undo_1 zf_X9_54 rfl (by decide) (by decide) rfl ?_
  refine zj_getiN (e := un) (n := 7) rfl dX9_undo_4 zf_X9_319 rfl (by decide) (by decide) hun ?_
  refine zj_ifN_le (n := 10) (tgt := 14) rfl dX9_undo_7 (by decide) (by omega) (fun c7 => ?_) (fun c7 => ?_)
  · refine zj_iconstN_0 (n := 15) rfl dX9_undo_14 ?_
    refine zj_callS1 (n := 18) (a' := 0) (b' := 0) rfl dX9_undo_15 zm_X9_227 (by decide) (Nat.le_of_ble_eq_true rfl) (Nat.le_of_ble_eq_true rfl) (Nat.le_of_ble_eq_true rfl) (Nat.le_of_ble_eq_true rfl) (jX9_needState (p := false) (fun q => by cases q) (fun _ => hx1 (by simp only [a_undo]; rw [if_pos (by omega)])))
  · refine zj_iconstN_1 (n := 11) rfl dX9_undo_10 ?_
    refine zj_goto (tgt := 15) dX9_undo_11 (by decide) ?_
    refine zj_callS1 (n := 18) (a' := 0) (b' := 0) rfl dX9_undo_15 zm_X9_227 (by decide) (Nat.le_of_ble_eq_true rfl) (Nat.le_of_ble_eq_true rfl) (Nat.le_of_ble_eq_true rfl) (Nat.le_of_ble_eq_true rfl) (jX9_needState (p := true) (fun _ => ?_) (fun q => by cases q))
    refine zj_aload0 (n := 19) rfl dX9_undo_18 ?_
    refine zj_getr (n := 22) (q := 116) rfl dX9_undo_19 zf_X9_54 rfl (by decide) (by decide) rfl ?_
    refine zj_aload0 (n := 23) rfl dX9_undo_22 ?_
    refine zj_getr (n := 26) (q := 0) rfl dX9_undo_23 zf_X9_33 rfl (by decide) (by decide) rfl ?_
    refine zj_callV1 (n := 29) (a' := 0) (b' := 0) rfl dX9_undo_26 zm_X9_320 (by decide) (by decide) rfl (Nat.le_of_ble_eq_true rfl) (Nat.le_of_ble_eq_true rfl) (Nat.le_of_ble_eq_true rfl) (Nat.le_of_ble_eq_true rfl) (jX8_bringBack hU hR.f (hV (un - 1) (by omega)) (by omega) ?_)
    intro M2 hF2 hL2 hR2 hU2
    have hC2 := hC.2.1.cg (M' := M2) (fun a h1 h2 => hF2 a (by omega) (by omega))
    have hm2 : zMn M M2 := ⟨fun a h1 h2 h3 => hF2 a (by omega) (by omega), fun c _ _ _ => by rw [hL2], by rw [hL2]⟩
    have hun1 : M2.1 116 2 = nI (un - 1) := by obtain ⟨_, _, o, _, _, q, _⟩ := hU2; exact q
    refine zj_aload0 (n := 30) rfl dX9_undo_29 ?_
    refine zj_getr (n := 33) (q := 116) rfl dX9_undo_30 zf_X9_54 rfl (by decide) (by decide) rfl ?_
    refine zj_getiN (e := un - 1) (n := 36) rfl dX9_undo_33 zf_X9_319 rfl (by decide) (by decide) hun1 ?_
    refine zj_ireturn dX9_undo_36 rfl rfl ?_
    have e : a_undo un = (0, nI (un - 1)) := by unfold a_undo; rw [if_neg (by omega)]
    rw [e] at h
    exact h rfl M2 hm2 ⟨hR2, hC2, hC.2.2.1.cg (hF2 _ (by decide) (by decide)), hC.2.2.2.cg (hF2 _ (by decide) (by decide))⟩ hU2
