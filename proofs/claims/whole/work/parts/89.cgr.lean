/-! THE CLASS: a group, the text -/
theorem sEnd15 {B : Nat → Nat} {n : Nat} {v : zV} {s : zS} (h : (sEnd B n (gp14 B n v s)).1 ≠ 0 ∨ (plS (vGrp B n v s) (v 8) (vsh (vGrp B n v s) (v 8))).isSome = true) : sEnd B n (gp15 B n v s) = sEnd B n (gp14 B n v s) := by
  unfold gp15
  split
  · rename_i q
    rw [Bool.and_eq_true] at q
    rcases h with h | h
    · by_cases w : (gp14 B n v s).1 = 0
      · exfalso
        apply h
        unfold sEnd
        exact sNext_ok.mpr ((sErr_ok (by decide)).mpr ⟨w, by rw [q.1]; rfl⟩)
      · rw [sRef_no w]
    · exfalso
      rw [Option.isSome_iff_exists] at h
      obtain ⟨x, hx⟩ := h
      rw [hx] at q
      exact absurd q.2 (by simp)
  · rfl
theorem sEnd15f {B : Nat → Nat} {n : Nat} {v : zV} {s : zS} (h : (sEnd B n (gp14 B n v s)).1 = 0) (h2 : (plS (vGrp B n v s) (v 8) (vsh (vGrp B n v s) (v 8))).isSome = false) : sEnd B n (gp15 B n v s) = sRef 5 (tS B n (gp14 B n v s).2.2) (sEnd B n (gp14 B n v s)) := by
  obtain ⟨a1, a2, -⟩ := sEnd_ok h
  have e : gp15 B n v s = sRef 5 (tS B n (gp14 B n v s).2.2) (gp14 B n v s) := by
    unfold gp15
    rw [a2]
    cases q : plS (vGrp B n v s) (v 8) (vsh (vGrp B n v s) (v 8)) with
    | none => rfl
    | some x => rw [q] at h2; cases h2
  rw [e, sRef_e a1, sRef_e h, sEnd_no (by simp)]
theorem zRg.grow {M M' : zM} {v u : zV} (h : zRg M 9 v) (hW : zWF v) (h8 : v 8 < 10) (e : ∀ j, (j < 268 + 23 * v 8 ∨ 268 + 23 * v 8 + 23 ≤ j) → u j = v j) (hF : ∀ a, 9 ≤ a → a ≤ 17 → a ≠ 14 → a ≠ 15 → M'.1 a = M.1 a) (hT : zTN M' 14 21 10 (v 8 + 1)) (ho : ∀ j, j < v 8 * 21 → M'.1 15 j = M.1 15 j)
    (hr : ∀ j, j < 7 → M'.1 15 (v 8 * 21 + j) = nI (u (268 + 23 * v 8 + j))) (h7 : M'.1 15 (v 8 * 21 + 7) = nI (vcost u (v 8))) (h9 : M'.1 15 (v 8 * 21 + 9) = nI (vsh u (v 8))) (h20 : M'.1 15 (v 8 * 21 + 20) = nI (vname u (268 + 23 * v 8 + 17))) : zRq0 M' u (v 8) := by
  have hsh : ∀ g, g < v 8 → vsh v g ≤ 10 := fun g hg => (hW.sh hg).2
  have h6 := hW.nN
  refine ⟨(h.n.cg (hF 10 (by decide) (by decide) (by decide) (by decide)) (hF 11 (by decide) (by decide) (by decide) (by decide))).vg (fun i h1 h2 h3 h4 h5 => e i (by omega)) (fun n hn => vcnt_ag (fun j h1 h2 => e j (by omega)) hsh), (h.t.cg (hF 12 (by decide) (by decide) (by decide) (by decide)) (hF 13 (by decide) (by decide) (by decide) (by decide))).vg (e 7 (by omega)) (fun i h1 h2 => e i (by omega)), hT, fun i hi => ?_, ⟨hr, h7, h9, h20⟩, (h.p.cg (hF 16 (by decide) (by decide) (by decide) (by decide)) (hF 17 (by decide) (by decide) (by decide) (by decide))).vg (e 9 (by omega)) (fun i h1 h2 => e i (by omega)), (h.s.cg (hF 9 (by decide) (by decide) (by decide) (by decide))).vg (fun j hj => e j (by omega))⟩
  obtain ⟨ec, es⟩ := vcost_vg (v := v) (v' := u) (g := i) (fun c hc => e _ (by omega))
  have hs10 := hsh i hi
  refine ⟨fun j hj => ?_, ?_, ?_, fun s hs => ?_, ?_⟩
  · rw [ho _ (by omega), e _ (by omega)]; exact h.g.c hi hj
  · rw [ho _ (by omega), ec]; exact h.g.co hi
  · rw [ho _ (by omega), es]; exact h.g.n hi
  · rw [es] at hs
    rw [ho _ (by omega), e _ (by omega)]; exact h.g.sh hi hs
  · rw [ho _ (by omega), show vname u (268 + 23 * i + 17) = vname v (268 + 23 * i + 17) from vname_eq (fun k hk => e _ (by omega))]
    exact h.g.nm hi
set_option maxRecDepth 100000 in
set_option maxHeartbeats 4000000 in
theorem jX5_readGroup {n : Nat} {B : Nat → Nat} {s : zS} {v : zV} {Q : Option Value → zM → Prop} {X : String → zM → Prop} {M : zM} (hP : zPs M n B s) (hs : s.1 = 0) (hR : zRg M 9 v) (hp : zPv v) (hat : sAt B n s.2.2 16 = true) (h : ∀ M', zC9 M M' → zPs M' n B (sEnd B n (gp15 B n v s)) → zRz M' → ((sEnd B n (gp15 B n v s)).1 = 0 → zRg M' 9 (vGrpF B n v s)) → Q none M') : zJ yX5_readGroup cX5_readGroup 11 none rX5_readGroup Q X rX5_readGroup.cells rX5_readGroup.slots 0 (zEnt 11 [.ref 104]) [] M := by
  have hW := hp.1
  have hN := hp.2.1
  have h6 := hW.nN
  have h7 := hW.tN
  have h8 := hW.gN
  have hF0 : zC9 M M := zC9.rf
  have hn1400 := hP.n
  show zJ yX5_readGroup cX5_readGroup 11 none rX5_readGroup Q X 0 0 0 [some (.ref 104), none, none, none, none, none, none, none, none, none, none] [] M
  refine zj_aload0 (n := 1) rfl dX5_readGroup_0 ?_
  refine zj_getkw (i := 16) (n := 4) rfl dX5_readGroup_1 (by decide) rfl zs_X5_60 ?_
  refine zj_aload0 (n := 5) rfl dX5_readGroup_4 ?_
  refine zj_getr (n := 8) (q := 9) rfl dX5_readGroup_5 zf_X5_12 rfl (by decide) (by decide) rfl ?_
  refine zj_getr (n := 11) (q := 14) rfl dX5_readGroup_8 zf_X5_168 rfl (by decide) (by decide) rfl ?_
  refine zj_callV2 (n := 14) (a' := 0) (b' := 0) rfl dX5_readGroup_11 zm_X5_129 (by decide) (by decide) rfl (Nat.le_of_ble_eq_true rfl) (Nat.le_of_ble_eq_true rfl) (Nat.le_of_ble_eq_true rfl) (Nat.le_of_ble_eq_true rfl) (jX5_takeBeginning hP (by decide) hR.g.1 (by decide) (by decide) (by decide) ?_)
  intro M1 x1 dup hb1 hG1 hP1 hx1 hdup
  have hF1 : zC9 M M1 := hF0.tr (zC9.of hG1)
  have hR1 := hR.kf hG1
  have hfull : decide (v 8 = 10) = !decide (v 8 < 10) := by
    by_cases w : v 8 = 10
    · rw [decide_eq_true w, decide_eq_false (by omega)]; rfl
    · rw [decide_eq_false w, decide_eq_true (by omega)]; rfl
  have hat9 : s.1 = 0 → sAt B n s.2.2 16 = true := fun _ => hat
  rw [sTake_at hat9, hfull] at hx1
  rw [sBeg_is hat9, hfull] at hP1
  change zPs M1 n B (sNext B n (sErr 3 B n dup (sErr 1 B n (sBadN B n (gp1 B n v s).2.2) (gp1 B n v s)))) at hP1
  change (sNext B n (sErr 1 B n (sBadN B n (gp1 B n v s).2.2) (gp1 B n v s))).1 = 0 → x1 = vnm B (tS B n (gp1 B n v s).2.2) (tE B n (gp1 B n v s).2.2) at hx1
  have hd1 : (sErr 1 B n (sBadN B n (gp1 B n v s).2.2) (gp1 B n v s)).1 = 0 → dup = (kfind v 2 B (tS B n (gp1 B n v s).2.2) (tE B n (gp1 B n v s).2.2)).isSome := fun q => by
    rw [hdup, hx1 (sNext_ok.mpr q)]
    refine zfo_is (fun r hr => ?_)
    have hn1 := hN.at (kd := 2) (by decide) (show r < v (6 + 2) from hr)
    have hn2 := hn1.nlt
    have hn3 := vnm_lt B (tS B n (gp1 B n v s).2.2) (tE B n (gp1 B n v s).2.2)
    rw [show M.1 15 (r * 21 + (21 - 1)) = nI (vname v (268 + 23 * r + 17)) from hR.g.nm hr, show vname v (268 + 23 * r + 17) = vname v (kbase 2 r) from rfl]
    exact decide_eq_decide.mpr (nI_eq (by omega) (by omega))
  have hP2 : zPs M1 n B (gp2 B n v s) := by
    unfold gp2 gp2e
    rw [← sErr_cong hd1]
    exact hP1
  have hx2 : (gp2 B n v s).1 = 0 → x1 = vnm B (tS B n (gp1 B n v s).2.2) (tE B n (gp1 B n v s).2.2) := fun q => hx1 (by
    unfold gp2 gp2e at q
    exact sNext_ok.mpr ((sErr_ok (by decide)).mp (sNext_ok.mp q)).1)
  refine zj_istore1 (n := 15) rfl dX5_readGroup_14 rfl (Nat.le_of_ble_eq_true rfl) ?_
  refine zj_aload0 (n := 16) rfl dX5_readGroup_15 ?_
  refine zj_getkw (i := 17) (n := 19) rfl dX5_readGroup_16 (by decide) rfl zs_X5_171 ?_
  refine zj_callV1 (n := 22) (a' := 0) (b' := 0) rfl dX5_readGroup_19 zm_X5_76 (by decide) (by decide) rfl (Nat.le_of_ble_eq_true rfl) (Nat.le_of_ble_eq_true rfl) (Nat.le_of_ble_eq_true rfl) (Nat.le_of_ble_eq_true rfl) (jX5_take hP2 (by decide) ?_)
  intro M3 hG3 hP3
  have hF3 : zC9 M M3 := hF1.tr (zC9.of hG3)
  have hR3 := hR1.kf hG3
  change zPs M3 n B (gp3 B n v s) at hP3
  obtain ⟨-, -, -, -, e3, hen3, hT3, he3⟩ := id hP3
  have hts3 := tS_le (B := B) hen3
  refine zj_aload0 (n := 23) rfl dX5_readGroup_22 ?_
  refine zj_getiN (e := tS B n e3) (n := 26) rfl dX5_readGroup_23 zf_X5_66 rfl (by decide) (by decide) hT3.2.1 ?_
  refine zj_istore2 (n := 27) rfl dX5_readGroup_26 rfl (Nat.le_of_ble_eq_true rfl) ?_
  refine zj_aload0 (n := 28) rfl dX5_readGroup_27 ?_
  refine zj_getr (n := 31) (q := 9) rfl dX5_readGroup_28 zf_X5_12 rfl (by decide) (by decide) rfl ?_
  refine zj_getr (n := 34) (q := 12) rfl dX5_readGroup_31 zf_X5_158 rfl (by decide) (by decide) rfl ?_
  refine zj_aload0 (n := 35) rfl dX5_readGroup_34 ?_
  refine zj_callV0 (n := 38) (a' := 0) (b' := 0) rfl dX5_readGroup_35 zm_X5_174 (by decide) (by decide) rfl (Nat.le_of_ble_eq_true rfl) (Nat.le_of_ble_eq_true rfl) (Nat.le_of_ble_eq_true rfl) (Nat.le_of_ble_eq_true rfl) (jX5_takeName hP3 ?_)
  intro M4 x4 hb4 hG4 hP4 hx4
  have hF4 : zC9 M M4 := hF3.tr (zC9.of hG4)
  have hR4 := hR3.kf hG4
  refine zj_callV1 (n := 41) (a' := 0) (b' := 0) rfl dX5_readGroup_38 zm_X5_177 (by decide) (by decide) rfl (Nat.le_of_ble_eq_true rfl) (Nat.le_of_ble_eq_true rfl) (Nat.le_of_ble_eq_true rfl) (Nat.le_of_ble_eq_true rfl) (jX7_named (k := 12) (c := 6) (cap := 6) (n := v 7) (x := nI x4) hR4.t.1 ?_)
  have hgx : (gp4c B n v s).1 = 0 → x4 = vnm B (tS B n (gp3 B n v s).2.2) (tE B n (gp3 B n v s).2.2) := fun q => hx4 (sNext_ok.mpr q)
  generalize ho3 : zfo (v 7) (fun r => decide (M4.1 (12 + 1) (r * 6 + (6 - 1)) = nI x4)) = o3
  have hog : (gp4c B n v s).1 = 0 → o3 = gpt B n v s := fun q => by
    rw [← ho3, hgx q]
    refine zfo_congr (fun r hr => ?_)
    have hn1 := hN.at (kd := 1) (by decide) (show r < v (6 + 1) from hr)
    have hn2 := hn1.nlt
    have hn3 := vnm_lt B (tS B n (gp3 B n v s).2.2) (tE B n (gp3 B n v s).2.2)
    rw [show M4.1 (12 + 1) (r * 6 + (6 - 1)) = nI (vname v (202 + 11 * r + 5)) from hR4.t.nm hr, show vname v (202 + 11 * r + 5) = vname v (kbase 1 r) from rfl]
    exact decide_eq_decide.mpr (nI_eq (by omega) (by omega))
  refine zj_istore3 (n := 42) rfl dX5_readGroup_41 rfl (Nat.le_of_ble_eq_true rfl) ?_
  refine zj_iload3 (n := 43) rfl dX5_readGroup_42 ?_
  refine zj_iconst_m1 (n := 44) rfl dX5_readGroup_43 ?_
  refine zj_icmpO_ne (n := 47) (tgt := 53) rfl dX5_readGroup_44 (by decide) (fun m hm => by rw [← ho3] at hm; have := zfo_lt hm; omega) (fun m44 c44 => ?_) (fun c44 => ?_)
  · refine zj_gen (P := fun M6 => zC9 M M6 ∧ zRg M6 9 v ∧ zPs M6 n B (gp4 B n v s)) ⟨hF4, hR4, by
      have e9 : sDup (tS B n (gp3 B n v s).2.2) false (sNext B n (gp4c B n v s)) = sNext B n (sErr 3 B n false (gp4c B n v s)) := sDup_next (fun q => by have q : (sErr 1 B n (sBadN B n (gp3 B n v s).2.2) (gp3 B n v s)).1 = 0 := q; show (sErr 1 B n (sBadN B n (gp3 B n v s).2.2) (gp3 B n v s)).2.2 = _; rw [sErr_id (by decide) q])
      unfold gp4 gp4e
      rw [← sErr_cong (d := false) (fun q => by rw [← hog q, c44]; rfl), ← e9]
      exact hP4⟩ ?_
    intro M6 h6_
    obtain ⟨hF6, hR6, hP6⟩ := h6_
    refine zj_aload0 (n := 54) rfl dX5_readGroup_53 ?_
    refine zj_getkw (i := 18) (n := 57) rfl dX5_readGroup_54 (by decide) rfl zs_X5_180 ?_
    refine zj_callV1 (n := 60) (a' := 0) (b' := 0) rfl dX5_readGroup_57 zm_X5_76 (by decide) (by decide) rfl (Nat.le_of_ble_eq_true rfl) (Nat.le_of_ble_eq_true rfl) (Nat.le_of_ble_eq_true rfl) (Nat.le_of_ble_eq_true rfl) (jX5_take hP6 (by decide) ?_)
    intro M7 hG7 hP7
    have hF7 : zC9 M M7 := hF6.tr (zC9.of hG7)
    have hR7 := hR6.kf hG7
    change zPs M7 n B (gp5 B n v s) at hP7
    refine zj_aload0 (n := 61) rfl dX5_readGroup_60 ?_
    refine zj_iconstN_0 (n := 62) rfl dX5_readGroup_61 ?_
    refine zj_sipushN (v := 9999) (n := 65) rfl dX5_readGroup_62 (by decide) ?_
    refine zj_callV2 (n := 68) (a' := 0) (b' := 0) rfl dX5_readGroup_65 zm_X5_84 (by decide) (by decide) rfl (Nat.le_of_ble_eq_true rfl) (Nat.le_of_ble_eq_true rfl) (Nat.le_of_ble_eq_true rfl) (Nat.le_of_ble_eq_true rfl) (jX5_takeNumber hP7 (by decide) (by decide) ?_)
    intro M8 x8 hb8 hG8 hP8 hx8
    have hF8 : zC9 M M8 := hF7.tr (zC9.of hG8)
    have hR8 := hR7.kf hG8
    change zPs M8 n B (gp6 B n v s) at hP8
    refine zj_istore4 (n := 70) rfl dX5_readGroup_68 rfl (Nat.le_of_ble_eq_true rfl) ?_
    refine zj_aload0 (n := 71) rfl dX5_readGroup_70 ?_
    refine zj_getkw (i := 19) (n := 74) rfl dX5_readGroup_71 (by decide) rfl zs_X5_183 ?_
    refine zj_callV1 (n := 77) (a' := 0) (b' := 0) rfl dX5_readGroup_74 zm_X5_76 (by decide) (by decide) rfl (Nat.le_of_ble_eq_true rfl) (Nat.le_of_ble_eq_true rfl) (Nat.le_of_ble_eq_true rfl) (Nat.le_of_ble_eq_true rfl) (jX5_take hP8 (by decide) ?_)
    intro M9 hG9 hP9
    have hF9 : zC9 M M9 := hF8.tr (zC9.of hG9)
    have hR9 := hR8.kf hG9
    change zPs M9 n B (gp7 B n v s) at hP9
    refine zj_aload0 (n := 78) rfl dX5_readGroup_77 ?_
    refine zj_iconstN_1 (n := 79) rfl dX5_readGroup_78 ?_
    refine zj_bipushN (v := 6) (n := 81) rfl dX5_readGroup_79 (by decide) ?_
    refine zj_callV2 (n := 84) (a' := 0) (b' := 0) rfl dX5_readGroup_81 zm_X5_84 (by decide) (by decide) rfl (Nat.le_of_ble_eq_true rfl) (Nat.le_of_ble_eq_true rfl) (Nat.le_of_ble_eq_true rfl) (Nat.le_of_ble_eq_true rfl) (jX5_takeNumber hP9 (by decide) (by decide) ?_)
    intro M10 x10 hb10 hG10 hP10 hx10
    have hF10 : zC9 M M10 := hF9.tr (zC9.of hG10)
    have hR10 := hR9.kf hG10
    change zPs M10 n B (gp8 B n v s) at hP10
    refine zj_istore5 (n := 86) rfl dX5_readGroup_84 rfl (Nat.le_of_ble_eq_true rfl) ?_
    refine zj_aload0 (n := 87) rfl dX5_readGroup_86 ?_
    refine zj_getkw (i := 20) (n := 90) rfl dX5_readGroup_87 (by decide) rfl zs_X5_186 ?_
    refine zj_callV1 (n := 93) (a' := 0) (b' := 0) rfl dX5_readGroup_90 zm_X5_76 (by decide) (by decide) rfl (Nat.le_of_ble_eq_true rfl) (Nat.le_of_ble_eq_true rfl) (Nat.le_of_ble_eq_true rfl) (Nat.le_of_ble_eq_true rfl) (jX5_take hP10 (by decide) ?_)
    intro M11 hG11 hP11
    have hF11 : zC9 M M11 := hF10.tr (zC9.of hG11)
    have hR11 := hR10.kf hG11
    change zPs M11 n B (gp9 B n v s) at hP11
    refine zj_aload0 (n := 94) rfl dX5_readGroup_93 ?_
    refine zj_iconstN_1 (n := 95) rfl dX5_readGroup_94 ?_
    refine zj_iconstN_4 (n := 96) rfl dX5_readGroup_95 ?_
    refine zj_callV2 (n := 99) (a' := 0) (b' := 0) rfl dX5_readGroup_96 zm_X5_84 (by decide) (by decide) rfl (Nat.le_of_ble_eq_true rfl) (Nat.le_of_ble_eq_true rfl) (Nat.le_of_ble_eq_true rfl) (Nat.le_of_ble_eq_true rfl) (jX5_takeNumber hP11 (by decide) (by decide) ?_)
    intro M12 x12 hb12 hG12 hP12 hx12
    have hF12 : zC9 M M12 := hF11.tr (zC9.of hG12)
    have hR12 := hR11.kf hG12
    change zPs M12 n B (gp10 B n v s) at hP12
    refine zj_istore6 (n := 101) rfl dX5_readGroup_99 rfl (Nat.le_of_ble_eq_true rfl) ?_
    refine zj_aload0 (n := 102) rfl dX5_readGroup_101 ?_
    refine zj_getkw (i := 21) (n := 105) rfl dX5_readGroup_102 (by decide) rfl zs_X5_189 ?_
    refine zj_callV1 (n := 108) (a' := 0) (b' := 0) rfl dX5_readGroup_105 zm_X5_76 (by decide) (by decide) rfl (Nat.le_of_ble_eq_true rfl) (Nat.le_of_ble_eq_true rfl) (Nat.le_of_ble_eq_true rfl) (Nat.le_of_ble_eq_true rfl) (jX5_take hP12 (by decide) ?_)
    intro M13 hG13 hP13
    have hF13 : zC9 M M13 := hF12.tr (zC9.of hG13)
    have hR13 := hR12.kf hG13
    change zPs M13 n B (gp11 B n v s) at hP13
    refine zj_aload0 (n := 109) rfl dX5_readGroup_108 ?_
    refine zj_iconstN_1 (n := 110) rfl dX5_readGroup_109 ?_
    refine zj_bipushN (v := 100) (n := 112) rfl dX5_readGroup_110 (by decide) ?_
    refine zj_callV2 (n := 115) (a' := 0) (b' := 0) rfl dX5_readGroup_112 zm_X5_84 (by decide) (by decide) rfl (Nat.le_of_ble_eq_true rfl) (Nat.le_of_ble_eq_true rfl) (Nat.le_of_ble_eq_true rfl) (Nat.le_of_ble_eq_true rfl) (jX5_takeNumber hP13 (by decide) (by decide) ?_)
    intro M14 x14 hb14 hG14 hP14 hx14
    have hF14 : zC9 M M14 := hF13.tr (zC9.of hG14)
    have hR14 := hR13.kf hG14
    change zPs M14 n B (gp12 B n v s) at hP14
    refine zj_istore7 (n := 117) rfl dX5_readGroup_115 rfl (Nat.le_of_ble_eq_true rfl) ?_
    refine zj_aload0 (n := 118) rfl dX5_readGroup_117 ?_
    refine zj_getkw (i := 22) (n := 121) rfl dX5_readGroup_118 (by decide) rfl zs_X5_192 ?_
    refine zj_callV1 (n := 124) (a' := 0) (b' := 0) rfl dX5_readGroup_121 zm_X5_76 (by decide) (by decide) rfl (Nat.le_of_ble_eq_true rfl) (Nat.le_of_ble_eq_true rfl) (Nat.le_of_ble_eq_true rfl) (Nat.le_of_ble_eq_true rfl) (jX5_take hP14 (by decide) ?_)
    intro M15 hG15 hP15
    have hF15 : zC9 M M15 := hF14.tr (zC9.of hG15)
    have hR15 := hR14.kf hG15
    change zPs M15 n B (gp13 B n v s) at hP15
    refine zj_aload0 (n := 125) rfl dX5_readGroup_124 ?_
    refine zj_iconstN_1 (n := 126) rfl dX5_readGroup_125 ?_
    refine zj_sipushN (v := 9999) (n := 129) rfl dX5_readGroup_126 (by decide) ?_
    refine zj_callV2 (n := 132) (a' := 0) (b' := 0) rfl dX5_readGroup_129 zm_X5_84 (by decide) (by decide) rfl (Nat.le_of_ble_eq_true rfl) (Nat.le_of_ble_eq_true rfl) (Nat.le_of_ble_eq_true rfl) (Nat.le_of_ble_eq_true rfl) (jX5_takeNumber hP15 (by decide) (by decide) ?_)
    intro M16 x16 hb16 hG16 hP16 hx16
    have hF16 : zC9 M M16 := hF15.tr (zC9.of hG16)
    have hR16 := hR15.kf hG16
    change zPs M16 n B (gp14 B n v s) at hP16
    obtain ⟨-, -, -, -, e14, hen14, hK14, he14⟩ := id hP16
    have hts14 := tS_le (B := B) hen14
    refine zj_istore8 (n := 134) rfl dX5_readGroup_132 rfl (Nat.le_of_ble_eq_true rfl) ?_
    refine zj_aload0 (n := 135) rfl dX5_readGroup_134 ?_
    refine zj_getiN (e := tS B n e14) (n := 138) rfl dX5_readGroup_135 zf_X5_66 rfl (by decide) (by decide) hK14.2.1 ?_
    refine zj_istore9 (n := 140) rfl dX5_readGroup_138 rfl (Nat.le_of_ble_eq_true rfl) ?_
    refine zj_aload0 (n := 141) rfl dX5_readGroup_140 ?_
    refine zj_callV0 (n := 144) (a' := 0) (b' := 0) rfl dX5_readGroup_141 zm_X5_113 (by decide) (by decide) rfl (Nat.le_of_ble_eq_true rfl) (Nat.le_of_ble_eq_true rfl) (Nat.le_of_ble_eq_true rfl) (Nat.le_of_ble_eq_true rfl) (jX5_takeEnd hP16 ?_)
    intro M17 hG17 hP17
    have hF17 : zC9 M M17 := hF16.tr (zC9.of hG17)
    have hR17 := hR16.kf hG17
    refine zj_aload0 (n := 145) rfl dX5_readGroup_144 ?_
    refine zj_getiN (e := (sEnd B n (gp14 B n v s)).1) (n := 148) rfl dX5_readGroup_145 zf_X5_25 rfl (by decide) (by decide) hP17.2.1 ?_
    refine zj_ifN_ne (n := 151) (tgt := 312) rfl dX5_readGroup_148 (by decide) (by have := hP17.2.2.1; omega) (fun c148 => ?_) (fun c148 => ?_)
    · refine zj_return dX5_readGroup_312 rfl ?_
      rw [sEnd15 (Or.inl (show (sEnd B n (gp14 B n v s)).1 ≠ 0 by omega))] at h
      exact h M17 hF17 hP17 (hR17.rz hp) (fun q => absurd q (by omega))
    · refine zj_aload0 (n := 152) rfl dX5_readGroup_151 ?_
      refine zj_getr (n := 155) (q := 9) rfl dX5_readGroup_152 zf_X5_12 rfl (by decide) (by decide) rfl ?_
      refine zj_getr (n := 158) (q := 14) rfl dX5_readGroup_155 zf_X5_168 rfl (by decide) (by decide) rfl ?_
      refine zj_iload1 (n := 159) rfl dX5_readGroup_158 ?_
      refine zj_callV1 (n := 162) (a' := 0) (b' := 0) rfl dX5_readGroup_159 zm_X5_150 (by decide) (by decide) rfl (Nat.le_of_ble_eq_true rfl) (Nat.le_of_ble_eq_true rfl) (Nat.le_of_ble_eq_true rfl) (Nat.le_of_ble_eq_true rfl) (jX7_addNamed (x := nI x1) hR17.g.1 (by have := (gp14_ok (sEnd_ok c148).1).2.1; omega) ?_)
      intro M10 g1 g2 hT10 g4 g5 g6
      have hok : (gp14 B n v s).1 = 0 := (sEnd_ok c148).1
      obtain ⟨-, hc16, hbn, -, ⟨t3, ht3, htl3⟩, -⟩ := gp14_ok hok
      have q13 := (sNum_ok hok).1
      have q12 := (sTake_ok q13).1
      have q11 := (sNum_ok q12).1
      have q10 := (sTake_ok q11).1
      have q9 := (sNum_ok q10).1
      have q8 := (sTake_ok q9).1
      have q7 := (sNum_ok q8).1
      have q6 := (sTake_ok q7).1
      have q5 := (sNum_ok q6).1
      have q4 := (sTake_ok q5).1
      have q4e := (sErr_ok (by decide)).mp (sNext_ok.mp q4)
      have q3 := ((sErr_ok (by decide)).mp q4e.1).1
      have q2 := (sTake_ok q3).1
      have r1 := hx2 q2
      have r3 : o3 = some t3 := (hog q4e.1).trans ht3
      have r5 := hx8 q6
      have r7 := hx10 q8
      have r9 := hx12 q10
      have r11 := hx14 q12
      have r13 := hx16 hok
      have hv := vGrp_r (B := B) (n := n) (v := v) (s := s)
      have hqv := vGrp_q hp hok
      refine zj_istore10 (n := 164) rfl dX5_readGroup_162 rfl (Nat.le_of_ble_eq_true rfl) ?_
      refine zj_aload0 (n := 165) rfl dX5_readGroup_164 ?_
      refine zj_getr (n := 168) (q := 9) rfl dX5_readGroup_165 zf_X5_12 rfl (by decide) (by decide) rfl ?_
      refine zj_getr (n := 171) (q := 14) rfl dX5_readGroup_168 zf_X5_168 rfl (by decide) (by decide) rfl ?_
      refine zj_iload10 (n := 173) rfl dX5_readGroup_171 ?_
      refine zj_iconstN_0 (n := 174) rfl dX5_readGroup_173 ?_
      refine zj_iload3 (n := 175) rfl dX5_readGroup_174 ?_
      refine zj_callV3 (n := 178) (a' := 0) (b' := 0) rfl dX5_readGroup_175 zm_X5_154 (by decide) (by decide) rfl (Nat.le_of_ble_eq_true rfl) (Nat.le_of_ble_eq_true rfl) (Nat.le_of_ble_eq_true rfl) (Nat.le_of_ble_eq_true rfl) (jT_set hT10 (show v 8 < v 8 + 1 by omega) (by decide) ?_)
      refine zj_aload0 (n := 179) rfl dX5_readGroup_178 ?_
      refine zj_getr (n := 182) (q := 9) rfl dX5_readGroup_179 zf_X5_12 rfl (by decide) (by decide) rfl ?_
      refine zj_getr (n := 185) (q := 14) rfl dX5_readGroup_182 zf_X5_168 rfl (by decide) (by decide) rfl ?_
      refine zj_iload10 (n := 187) rfl dX5_readGroup_185 ?_
      refine zj_iconstN_1 (n := 188) rfl dX5_readGroup_187 ?_
      refine zj_iload4 (n := 190) rfl dX5_readGroup_188 ?_
      refine zj_callV3 (n := 193) (a' := 0) (b' := 0) rfl dX5_readGroup_190 zm_X5_154 (by decide) (by decide) rfl (Nat.le_of_ble_eq_true rfl) (Nat.le_of_ble_eq_true rfl) (Nat.le_of_ble_eq_true rfl) (Nat.le_of_ble_eq_true rfl) (jT_set (hT10.cg (by dsimp only; rw [zU_off (by decide)])) (show v 8 < v 8 + 1 by omega) (by decide) ?_)
      refine zj_aload0 (n := 194) rfl dX5_readGroup_193 ?_
      refine zj_getr (n := 197) (q := 9) rfl dX5_readGroup_194 zf_X5_12 rfl (by decide) (by decide) rfl ?_
      refine zj_getr (n := 200) (q := 14) rfl dX5_readGroup_197 zf_X5_168 rfl (by decide) (by decide) rfl ?_
      refine zj_iload10 (n := 202) rfl dX5_readGroup_200 ?_
      refine zj_iconstN_2 (n := 203) rfl dX5_readGroup_202 ?_
      refine zj_iload5 (n := 205) rfl dX5_readGroup_203 ?_
      refine zj_callV3 (n := 208) (a' := 0) (b' := 0) rfl dX5_readGroup_205 zm_X5_154 (by decide) (by decide) rfl (Nat.le_of_ble_eq_true rfl) (Nat.le_of_ble_eq_true rfl) (Nat.le_of_ble_eq_true rfl) (Nat.le_of_ble_eq_true rfl) (jT_set (hT10.cg (by dsimp only; rw [zU_off (by decide), zU_off (by decide)])) (show v 8 < v 8 + 1 by omega) (by decide) ?_)
      refine zj_aload0 (n := 209) rfl dX5_readGroup_208 ?_
      refine zj_getr (n := 212) (q := 9) rfl dX5_readGroup_209 zf_X5_12 rfl (by decide) (by decide) rfl ?_
      refine zj_getr (n := 215) (q := 14) rfl dX5_readGroup_212 zf_X5_168 rfl (by decide) (by decide) rfl ?_
      refine zj_iload10 (n := 217) rfl dX5_readGroup_215 ?_
      refine zj_iconstN_3 (n := 218) rfl dX5_readGroup_217 ?_
      refine zj_iload6 (n := 220) rfl dX5_readGroup_218 ?_
      refine zj_callV3 (n := 223) (a' := 0) (b' := 0) rfl dX5_readGroup_220 zm_X5_154 (by decide) (by decide) rfl (Nat.le_of_ble_eq_true rfl) (Nat.le_of_ble_eq_true rfl) (Nat.le_of_ble_eq_true rfl) (Nat.le_of_ble_eq_true rfl) (jT_set (hT10.cg (by dsimp only; rw [zU_off (by decide), zU_off (by decide), zU_off (by decide)])) (show v 8 < v 8 + 1 by omega) (by decide) ?_)
      refine zj_aload0 (n := 224) rfl dX5_readGroup_223 ?_
      refine zj_getr (n := 227) (q := 9) rfl dX5_readGroup_224 zf_X5_12 rfl (by decide) (by decide) rfl ?_
      refine zj_getr (n := 230) (q := 14) rfl dX5_readGroup_227 zf_X5_168 rfl (by decide) (by decide) rfl ?_
      refine zj_iload10 (n := 232) rfl dX5_readGroup_230 ?_
      refine zj_iconstN_4 (n := 233) rfl dX5_readGroup_232 ?_
      refine zj_iload7 (n := 235) rfl dX5_readGroup_233 ?_
      refine zj_callV3 (n := 238) (a' := 0) (b' := 0) rfl dX5_readGroup_235 zm_X5_154 (by decide) (by decide) rfl (Nat.le_of_ble_eq_true rfl) (Nat.le_of_ble_eq_true rfl) (Nat.le_of_ble_eq_true rfl) (Nat.le_of_ble_eq_true rfl) (jT_set (hT10.cg (by dsimp only; rw [zU_off (by decide), zU_off (by decide), zU_off (by decide), zU_off (by decide)])) (show v 8 < v 8 + 1 by omega) (by decide) ?_)
      refine zj_aload0 (n := 239) rfl dX5_readGroup_238 ?_
      refine zj_getr (n := 242) (q := 9) rfl dX5_readGroup_239 zf_X5_12 rfl (by decide) (by decide) rfl ?_
      refine zj_getr (n := 245) (q := 14) rfl dX5_readGroup_242 zf_X5_168 rfl (by decide) (by decide) rfl ?_
      refine zj_iload10 (n := 247) rfl dX5_readGroup_245 ?_
      refine zj_iconstN_5 (n := 248) rfl dX5_readGroup_247 ?_
      refine zj_iload8 (n := 250) rfl dX5_readGroup_248 ?_
      refine zj_callV3 (n := 253) (a' := 0) (b' := 0) rfl dX5_readGroup_250 zm_X5_154 (by decide) (by decide) rfl (Nat.le_of_ble_eq_true rfl) (Nat.le_of_ble_eq_true rfl) (Nat.le_of_ble_eq_true rfl) (Nat.le_of_ble_eq_true rfl) (jT_set (hT10.cg (by dsimp only; rw [zU_off (by decide), zU_off (by decide), zU_off (by decide), zU_off (by decide), zU_off (by decide)])) (show v 8 < v 8 + 1 by omega) (by decide) ?_)
      refine zj_aload0 (n := 254) rfl dX5_readGroup_253 ?_
      refine zj_getr (n := 257) (q := 9) rfl dX5_readGroup_254 zf_X5_12 rfl (by decide) (by decide) rfl ?_
      refine zj_getr (n := 260) (q := 14) rfl dX5_readGroup_257 zf_X5_168 rfl (by decide) (by decide) rfl ?_
      refine zj_iload10 (n := 262) rfl dX5_readGroup_260 ?_
      refine zj_bipushN (v := 7) (n := 264) rfl dX5_readGroup_262 (by decide) ?_
      refine zj_iload5 (n := 266) rfl dX5_readGroup_264 ?_
      refine zj_iconstN_1 (n := 267) rfl dX5_readGroup_266 ?_
      refine zj_iaddN (n := 268) rfl dX5_readGroup_267 ?_
      refine zj_iload7 (n := 270) rfl dX5_readGroup_268 ?_
      refine zj_imulN (n := 271) rfl dX5_readGroup_270 ?_
      refine zj_callV3 (n := 274) (a' := 0) (b' := 0) rfl dX5_readGroup_271 zm_X5_154 (by decide) (by decide) rfl (Nat.le_of_ble_eq_true rfl) (Nat.le_of_ble_eq_true rfl) (Nat.le_of_ble_eq_true rfl) (Nat.le_of_ble_eq_true rfl) (jT_set (hT10.cg (by dsimp only; rw [zU_off (by decide), zU_off (by decide), zU_off (by decide), zU_off (by decide), zU_off (by decide), zU_off (by decide)])) (show v 8 < v 8 + 1 by omega) (by decide) ?_)
      refine zj_aload0 (n := 275) rfl dX5_readGroup_274 ?_
      refine zj_getr (n := 278) (q := 9) rfl dX5_readGroup_275 zf_X5_12 rfl (by decide) (by decide) rfl ?_
      refine zj_getr (n := 281) (q := 14) rfl dX5_readGroup_278 zf_X5_168 rfl (by decide) (by decide) rfl ?_
      refine zj_iload10 (n := 283) rfl dX5_readGroup_281 ?_
      refine zj_bipushN (v := 9) (n := 285) rfl dX5_readGroup_283 (by decide) ?_
      refine zj_iload5 (n := 287) rfl dX5_readGroup_285 ?_
      refine zj_iload6 (n := 289) rfl dX5_readGroup_287 ?_
      refine zj_iaddN (n := 290) rfl dX5_readGroup_289 ?_
      refine zj_callV3 (n := 293) (a' := 0) (b' := 0) rfl dX5_readGroup_290 zm_X5_154 (by decide) (by decide) rfl (Nat.le_of_ble_eq_true rfl) (Nat.le_of_ble_eq_true rfl) (Nat.le_of_ble_eq_true rfl) (Nat.le_of_ble_eq_true rfl) (jT_set (hT10.cg (by dsimp only; rw [zU_off (by decide), zU_off (by decide), zU_off (by decide), zU_off (by decide), zU_off (by decide), zU_off (by decide), zU_off (by decide)])) (show v 8 < v 8 + 1 by omega) (by decide) ?_)
      have hM : ∀ a, a ≠ 15 → (zU (zU (zU (zU (zU (zU (zU (zU M10.1 15 (v 8 * 21 + 0) (zo o3)) 15 (v 8 * 21 + 1) (nI x8)) 15 (v 8 * 21 + 2) (nI x10)) 15 (v 8 * 21 + 3) (nI x12)) 15 (v 8 * 21 + 4) (nI x14)) 15 (v 8 * 21 + 5) (nI x16)) 15 (v 8 * 21 + 7) (nI ((x10 + 1) * x14))) 15 (v 8 * 21 + 9) (nI (x10 + x12))) a = M10.1 a := fun a ha => by rw [zU_off ha, zU_off ha, zU_off ha, zU_off ha, zU_off ha, zU_off ha, zU_off ha, zU_off ha]
      have hQ0 : zRq0 (zU (zU (zU (zU (zU (zU (zU (zU M10.1 15 (v 8 * 21 + 0) (zo o3)) 15 (v 8 * 21 + 1) (nI x8)) 15 (v 8 * 21 + 2) (nI x10)) 15 (v 8 * 21 + 3) (nI x12)) 15 (v 8 * 21 + 4) (nI x14)) 15 (v 8 * 21 + 5) (nI x16)) 15 (v 8 * 21 + 7) (nI ((x10 + 1) * x14))) 15 (v 8 * 21 + 9) (nI (x10 + x12)), M10.2) (vGrp B n v s) (v 8) := by
        refine hR17.grow hW hc16 (fun j hj => vGrp_off (by omega)) (fun a b1 b2 b3 b4 => (hM a b4).trans (g1 a b3 b4)) (hT10.cg (hM 14 (by decide))) (fun j hj => ?_) (fun j hj => ?_) ?_ ?_ ?_
        · dsimp only
          rw [zU_nj (by omega), zU_nj (by omega), zU_nj (by omega), zU_nj (by omega), zU_nj (by omega), zU_nj (by omega), zU_nj (by omega), zU_nj (by omega)]
          exact g4 j hj
        · obtain ⟨v0, v1, v2, v3, v4, v5, -⟩ := hv
          dsimp only
          rcases (show j = 0 ∨ j = 1 ∨ j = 2 ∨ j = 3 ∨ j = 4 ∨ j = 5 ∨ j = 6 by omega) with rfl | rfl | rfl | rfl | rfl | rfl | rfl
          · rw [zU_nj (by omega), zU_nj (by omega), zU_nj (by omega), zU_nj (by omega), zU_nj (by omega), zU_nj (by omega), zU_nj (by omega), zU_eq, v0, r3, ht3]; rfl
          · rw [zU_nj (by omega), zU_nj (by omega), zU_nj (by omega), zU_nj (by omega), zU_nj (by omega), zU_nj (by omega), zU_eq, v1, r5]
          · rw [zU_nj (by omega), zU_nj (by omega), zU_nj (by omega), zU_nj (by omega), zU_nj (by omega), zU_eq, v2, r7]
          · rw [zU_nj (by omega), zU_nj (by omega), zU_nj (by omega), zU_nj (by omega), zU_eq, v3, r9]
          · rw [zU_nj (by omega), zU_nj (by omega), zU_nj (by omega), zU_eq, v4, r11]
          · rw [zU_nj (by omega), zU_nj (by omega), zU_eq, v5, r13]
          · rw [zU_nj (by omega), zU_nj (by omega), zU_nj (by omega), zU_nj (by omega), zU_nj (by omega), zU_nj (by omega), zU_nj (by omega), zU_nj (by omega), vGrp_off (by omega), hp.2.2.2.2.1 (268 + 23 * v 8 + 6) (by omega) (by omega)]
            exact g5 6 (by decide)
        · dsimp only
          rw [zU_nj (by omega), zU_eq]
          show nI ((x10 + 1) * x14) = nI ((vGrp B n v s (268 + 23 * v 8 + 2) + 1) * vGrp B n v s (268 + 23 * v 8 + 4))
          rw [hv.2.2.1, hv.2.2.2.2.1, r7, r11]
        · dsimp only
          rw [zU_eq]
          show nI (x10 + x12) = nI (vGrp B n v s (268 + 23 * v 8 + 2) + vGrp B n v s (268 + 23 * v 8 + 3))
          rw [hv.2.2.1, hv.2.2.2.1, r7, r9]
        · dsimp only
          rw [zU_nj (by omega), zU_nj (by omega), zU_nj (by omega), zU_nj (by omega), zU_nj (by omega), zU_nj (by omega), zU_nj (by omega), zU_nj (by omega)]
          have hnm : vname (vGrp B n v s) (268 + 23 * v 8 + 17) = vnm B (tS B n (gp1 B n v s).2.2) (tE B n (gp1 B n v s).2.2) := vname_let hbn hv.2.2.2.2.2.2
          rw [hnm, ← r1]
          exact g6
      refine zj_gen (P := fun M12 => zC9 M M12 ∧ zRq0 M12 (vGrp B n v s) (v 8) ∧ zPs M12 n B (sEnd B n (gp14 B n v s)) ∧ zTN M12 12 6 6 (v 7) ∧ zTN M12 16 5 40 0 ∧ M12.1 9 = M17.1 9) ⟨hF17.tr ⟨fun a b1 b2 => (hM a (by omega)).trans (g1 a (by omega) (by omega)), g2⟩, hQ0, hP17.cg ((hM 104 (by decide)).trans (g1 104 (by decide) (by decide))) ((hM 100 (by decide)).trans (g1 100 (by decide) (by decide))) ((hM 101 (by decide)).trans (g1 101 (by decide) (by decide))), hR17.t.1.cg ((hM 12 (by decide)).trans (g1 12 (by decide) (by decide))), (hR17.rz hp).2.2.2.1.cg ((hM 16 (by decide)).trans (g1 16 (by decide) (by decide))), (hM 9 (by decide)).trans (g1 9 (by decide) (by decide))⟩ ?_
      intro M12 h12
      obtain ⟨hF12, hQ12, hP12, hT12, hT16, h912⟩ := h12
      refine zj_aload0 (n := 294) rfl dX5_readGroup_293 ?_
      refine zj_getr (n := 297) (q := 9) rfl dX5_readGroup_294 zf_X5_12 rfl (by decide) (by decide) rfl ?_
      refine zj_iload10 (n := 299) rfl dX5_readGroup_297 ?_
      refine zj_callV1 (n := 302) (a' := 0) (b' := 0) rfl dX5_readGroup_299 zm_X5_195 (by decide) (by decide) rfl (Nat.le_of_ble_eq_true rfl) (Nat.le_of_ble_eq_true rfl) (Nat.le_of_ble_eq_true rfl) (Nat.le_of_ble_eq_true rfl) (jX6_placeAll hQ12 hqv ?_)
      intro M13 b13 hF13 hs13 hT13 hN13 hbs hb13
      refine zj_ifB_ne (n := 305) (tgt := 312) rfl dX5_readGroup_302 (by decide) (fun c302 => ?_) (fun c302 => ?_)
      · refine zj_return dX5_readGroup_312 rfl ?_
        obtain ⟨u1, p1, hpl, hq1⟩ := hb13 c302
        rw [sEnd15 (Or.inr (by rw [hpl]; rfl))] at h
        have hi1 := plS_inv hqv _ u1 p1 hpl
        have h81 : u1 8 = v 8 := by rw [hi1.1 8 (by omega)]; exact hqv.2.1
        have hR13 : zRg M13 9 (vGrpF B n v s) := by
          rw [vGrpF_is hpl]
          rw [← hi1.sh] at hq1
          refine hq1.rg h81 hc16 (fun i hi => ?_)
          by_cases q : i < v 8
          · exact ((hi1.wf hqv hqv.2.2.2.1).sh (by rw [h81]; exact q)).2
          · have : i = v 8 := by omega
            subst this
            rw [hi1.sh]; exact hqv.2.2.2.1
        exact h M13 (hF12.tr ⟨fun a b1 b2 => hF13 a (by omega) (by omega), hs13⟩) (hP12.cg (hF13 104 (by decide) (by decide)) (hF13 100 (by decide) (by decide)) (hF13 101 (by decide) (by decide))) ⟨⟨_, hN13⟩, ⟨_, hT12.cg (hF13 12 (by decide) (by decide))⟩, ⟨_, hT13⟩, hT16.cg (hF13 16 (by decide) (by decide)), by rw [hF13 9 (by decide) (by decide), h912]; exact (hR17.rz hp).2.2.2.2.1, by rw [hF13 9 (by decide) (by decide), h912]; exact (hR17.rz hp).2.2.2.2.2⟩ (fun _ => hR13)
      · refine zj_aload0 (n := 306) rfl dX5_readGroup_305 ?_
        refine zj_iconstN_5 (n := 307) rfl dX5_readGroup_306 ?_
        refine zj_iload9 (n := 309) rfl dX5_readGroup_307 ?_
        refine zj_callV2 (n := 312) (a' := 0) (b' := 0) rfl dX5_readGroup_309 zm_X5_69 (by decide) (by decide) rfl (Nat.le_of_ble_eq_true rfl) (Nat.le_of_ble_eq_true rfl) (Nat.le_of_ble_eq_true rfl) (Nat.le_of_ble_eq_true rfl) (jX5_refuse (hP12.cg (hF13 104 (by decide) (by decide)) (hF13 100 (by decide) (by decide)) (hF13 101 (by decide) (by decide))) (by decide) ?_)
        intro M14 hG14 hP14
        refine zj_return dX5_readGroup_312 rfl ?_
        have hno : (plS (vGrp B n v s) (v 8) (vsh (vGrp B n v s) (v 8))).isSome = false := by rw [← hbs]; exact c302
        rw [sEnd15f c148 hno] at h
        have e14 : e14 = (gp14 B n v s).2.2 := he14 hok
        subst e14
        exact h M14 ((hF12.tr ⟨fun a b1 b2 => hF13 a (by omega) (by omega), hs13⟩).tr (zC9.of (zK23 hG14))) hP14 (zRz.kf (M := M13) ⟨⟨_, hN13⟩, ⟨_, hT12.cg (hF13 12 (by decide) (by decide))⟩, ⟨_, hT13⟩, hT16.cg (hF13 16 (by decide) (by decide)), by rw [hF13 9 (by decide) (by decide), h912]; exact (hR17.rz hp).2.2.2.2.1, by rw [hF13 9 (by decide) (by decide), h912]; exact (hR17.rz hp).2.2.2.2.2⟩ hG14) (fun q => absurd q (by rw [sRef_e c148]; simp))
  · refine zj_aload0 (n := 48) rfl dX5_readGroup_47 ?_
    refine zj_iconstN_3 (n := 49) rfl dX5_readGroup_48 ?_
    refine zj_iload2 (n := 50) rfl dX5_readGroup_49 ?_
    refine zj_callV2 (n := 53) (a' := 0) (b' := 0) rfl dX5_readGroup_50 zm_X5_69 (by decide) (by decide) rfl (Nat.le_of_ble_eq_true rfl) (Nat.le_of_ble_eq_true rfl) (Nat.le_of_ble_eq_true rfl) (Nat.le_of_ble_eq_true rfl) (jX5_refuse hP4 (by decide) ?_)
    intro M5 hG5 hP5
    refine zj_gen (P := fun M6 => zC9 M M6 ∧ zRg M6 9 v ∧ zPs M6 n B (gp4 B n v s)) ⟨(hF4.tr (zC9.of (zK23 hG5))), (hR4.kf hG5), by
      have e9 : sDup (tS B n (gp3 B n v s).2.2) true (sNext B n (gp4c B n v s)) = sNext B n (sErr 3 B n true (gp4c B n v s)) := sDup_next (fun q => by have q : (sErr 1 B n (sBadN B n (gp3 B n v s).2.2) (gp3 B n v s)).1 = 0 := q; show (sErr 1 B n (sBadN B n (gp3 B n v s).2.2) (gp3 B n v s)).2.2 = _; rw [sErr_id (by decide) q])
      unfold gp4 gp4e
      rw [← sErr_cong (d := true) (fun q => by rw [← hog q, c44]; rfl), ← e9]
      exact (by
        by_cases w : (gp3 B n v s).1 = 0
        · rw [← he3 w]
          exact hP5
        · have w2 : (sName B n (gp3 B n v s)).1 ≠ 0 := fun q => w ((sErr_ok (by decide)).mp (sNext_ok.mp q)).1
          show zPs M5 n B (sRef 3 _ (sName B n (gp3 B n v s)))
          rw [sRef_no w2] at hP5 ⊢
          exact hP5)⟩ ?_
    intro M6 h6_
    obtain ⟨hF6, hR6, hP6⟩ := h6_
    refine zj_aload0 (n := 54) rfl dX5_readGroup_53 ?_
    refine zj_getkw (i := 18) (n := 57) rfl dX5_readGroup_54 (by decide) rfl zs_X5_180 ?_
    refine zj_callV1 (n := 60) (a' := 0) (b' := 0) rfl dX5_readGroup_57 zm_X5_76 (by decide) (by decide) rfl (Nat.le_of_ble_eq_true rfl) (Nat.le_of_ble_eq_true rfl) (Nat.le_of_ble_eq_true rfl) (Nat.le_of_ble_eq_true rfl) (jX5_take hP6 (by decide) ?_)
    intro M7 hG7 hP7
    have hF7 : zC9 M M7 := hF6.tr (zC9.of hG7)
    have hR7 := hR6.kf hG7
    change zPs M7 n B (gp5 B n v s) at hP7
    refine zj_aload0 (n := 61) rfl dX5_readGroup_60 ?_
    refine zj_iconstN_0 (n := 62) rfl dX5_readGroup_61 ?_
    refine zj_sipushN (v := 9999) (n := 65) rfl dX5_readGroup_62 (by decide) ?_
    refine zj_callV2 (n := 68) (a' := 0) (b' := 0) rfl dX5_readGroup_65 zm_X5_84 (by decide) (by decide) rfl (Nat.le_of_ble_eq_true rfl) (Nat.le_of_ble_eq_true rfl) (Nat.le_of_ble_eq_true rfl) (Nat.le_of_ble_eq_true rfl) (jX5_takeNumber hP7 (by decide) (by decide) ?_)
    intro M8 x8 hb8 hG8 hP8 hx8
    have hF8 : zC9 M M8 := hF7.tr (zC9.of hG8)
    have hR8 := hR7.kf hG8
    change zPs M8 n B (gp6 B n v s) at hP8
    refine zj_istore4 (n := 70) rfl dX5_readGroup_68 rfl (Nat.le_of_ble_eq_true rfl) ?_
    refine zj_aload0 (n := 71) rfl dX5_readGroup_70 ?_
    refine zj_getkw (i := 19) (n := 74) rfl dX5_readGroup_71 (by decide) rfl zs_X5_183 ?_
    refine zj_callV1 (n := 77) (a' := 0) (b' := 0) rfl dX5_readGroup_74 zm_X5_76 (by decide) (by decide) rfl (Nat.le_of_ble_eq_true rfl) (Nat.le_of_ble_eq_true rfl) (Nat.le_of_ble_eq_true rfl) (Nat.le_of_ble_eq_true rfl) (jX5_take hP8 (by decide) ?_)
    intro M9 hG9 hP9
    have hF9 : zC9 M M9 := hF8.tr (zC9.of hG9)
    have hR9 := hR8.kf hG9
    change zPs M9 n B (gp7 B n v s) at hP9
    refine zj_aload0 (n := 78) rfl dX5_readGroup_77 ?_
    refine zj_iconstN_1 (n := 79) rfl dX5_readGroup_78 ?_
    refine zj_bipushN (v := 6) (n := 81) rfl dX5_readGroup_79 (by decide) ?_
    refine zj_callV2 (n := 84) (a' := 0) (b' := 0) rfl dX5_readGroup_81 zm_X5_84 (by decide) (by decide) rfl (Nat.le_of_ble_eq_true rfl) (Nat.le_of_ble_eq_true rfl) (Nat.le_of_ble_eq_true rfl) (Nat.le_of_ble_eq_true rfl) (jX5_takeNumber hP9 (by decide) (by decide) ?_)
    intro M10 x10 hb10 hG10 hP10 hx10
    have hF10 : zC9 M M10 := hF9.tr (zC9.of hG10)
    have hR10 := hR9.kf hG10
    change zPs M10 n B (gp8 B n v s) at hP10
    refine zj_istore5 (n := 86) rfl dX5_readGroup_84 rfl (Nat.le_of_ble_eq_true rfl) ?_
    refine zj_aload0 (n := 87) rfl dX5_readGroup_86 ?_
    refine zj_getkw (i := 20) (n := 90) rfl dX5_readGroup_87 (by decide) rfl zs_X5_186 ?_
    refine zj_callV1 (n := 93) (a' := 0) (b' := 0) rfl dX5_readGroup_90 zm_X5_76 (by decide) (by decide) rfl (Nat.le_of_ble_eq_true rfl) (Nat.le_of_ble_eq_true rfl) (Nat.le_of_ble_eq_true rfl) (Nat.le_of_ble_eq_true rfl) (jX5_take hP10 (by decide) ?_)
    intro M11 hG11 hP11
    have hF11 : zC9 M M11 := hF10.tr (zC9.of hG11)
    have hR11 := hR10.kf hG11
    change zPs M11 n B (gp9 B n v s) at hP11
    refine zj_aload0 (n := 94) rfl dX5_readGroup_93 ?_
    refine zj_iconstN_1 (n := 95) rfl dX5_readGroup_94 ?_
    refine zj_iconstN_4 (n := 96) rfl dX5_readGroup_95 ?_
    refine zj_callV2 (n := 99) (a' := 0) (b' := 0) rfl dX5_readGroup_96 zm_X5_84 (by decide) (by decide) rfl (Nat.le_of_ble_eq_true rfl) (Nat.le_of_ble_eq_true rfl) (Nat.le_of_ble_eq_true rfl) (Nat.le_of_ble_eq_true rfl) (jX5_takeNumber hP11 (by decide) (by decide) ?_)
    intro M12 x12 hb12 hG12 hP12 hx12
    have hF12 : zC9 M M12 := hF11.tr (zC9.of hG12)
    have hR12 := hR11.kf hG12
    change zPs M12 n B (gp10 B n v s) at hP12
    refine zj_istore6 (n := 101) rfl dX5_readGroup_99 rfl (Nat.le_of_ble_eq_true rfl) ?_
    refine zj_aload0 (n := 102) rfl dX5_readGroup_101 ?_
    refine zj_getkw (i := 21) (n := 105) rfl dX5_readGroup_102 (by decide) rfl zs_X5_189 ?_
    refine zj_callV1 (n := 108) (a' := 0) (b' := 0) rfl dX5_readGroup_105 zm_X5_76 (by decide) (by decide) rfl (Nat.le_of_ble_eq_true rfl) (Nat.le_of_ble_eq_true rfl) (Nat.le_of_ble_eq_true rfl) (Nat.le_of_ble_eq_true rfl) (jX5_take hP12 (by decide) ?_)
    intro M13 hG13 hP13
    have hF13 : zC9 M M13 := hF12.tr (zC9.of hG13)
    have hR13 := hR12.kf hG13
    change zPs M13 n B (gp11 B n v s) at hP13
    refine zj_aload0 (n := 109) rfl dX5_readGroup_108 ?_
    refine zj_iconstN_1 (n := 110) rfl dX5_readGroup_109 ?_
    refine zj_bipushN (v := 100) (n := 112) rfl dX5_readGroup_110 (by decide) ?_
    refine zj_callV2 (n := 115) (a' := 0) (b' := 0) rfl dX5_readGroup_112 zm_X5_84 (by decide) (by decide) rfl (Nat.le_of_ble_eq_true rfl) (Nat.le_of_ble_eq_true rfl) (Nat.le_of_ble_eq_true rfl) (Nat.le_of_ble_eq_true rfl) (jX5_takeNumber hP13 (by decide) (by decide) ?_)
    intro M14 x14 hb14 hG14 hP14 hx14
    have hF14 : zC9 M M14 := hF13.tr (zC9.of hG14)
    have hR14 := hR13.kf hG14
    change zPs M14 n B (gp12 B n v s) at hP14
    refine zj_istore7 (n := 117) rfl dX5_readGroup_115 rfl (Nat.le_of_ble_eq_true rfl) ?_
    refine zj_aload0 (n := 118) rfl dX5_readGroup_117 ?_
    refine zj_getkw (i := 22) (n := 121) rfl dX5_readGroup_118 (by decide) rfl zs_X5_192 ?_
    refine zj_callV1 (n := 124) (a' := 0) (b' := 0) rfl dX5_readGroup_121 zm_X5_76 (by decide) (by decide) rfl (Nat.le_of_ble_eq_true rfl) (Nat.le_of_ble_eq_true rfl) (Nat.le_of_ble_eq_true rfl) (Nat.le_of_ble_eq_true rfl) (jX5_take hP14 (by decide) ?_)
    intro M15 hG15 hP15
    have hF15 : zC9 M M15 := hF14.tr (zC9.of hG15)
    have hR15 := hR14.kf hG15
    change zPs M15 n B (gp13 B n v s) at hP15
    refine zj_aload0 (n := 125) rfl dX5_readGroup_124 ?_
    refine zj_iconstN_1 (n := 126) rfl dX5_readGroup_125 ?_
    refine zj_sipushN (v := 9999) (n := 129) rfl dX5_readGroup_126 (by decide) ?_
    refine zj_callV2 (n := 132) (a' := 0) (b' := 0) rfl dX5_readGroup_129 zm_X5_84 (by decide) (by decide) rfl (Nat.le_of_ble_eq_true rfl) (Nat.le_of_ble_eq_true rfl) (Nat.le_of_ble_eq_true rfl) (Nat.le_of_ble_eq_true rfl) (jX5_takeNumber hP15 (by decide) (by decide) ?_)
    intro M16 x16 hb16 hG16 hP16 hx16
    have hF16 : zC9 M M16 := hF15.tr (zC9.of hG16)
    have hR16 := hR15.kf hG16
    change zPs M16 n B (gp14 B n v s) at hP16
    obtain ⟨-, -, -, -, e14, hen14, hK14, he14⟩ := id hP16
    have hts14 := tS_le (B := B) hen14
    refine zj_istore8 (n := 134) rfl dX5_readGroup_132 rfl (Nat.le_of_ble_eq_true rfl) ?_
    refine zj_aload0 (n := 135) rfl dX5_readGroup_134 ?_
    refine zj_getiN (e := tS B n e14) (n := 138) rfl dX5_readGroup_135 zf_X5_66 rfl (by decide) (by decide) hK14.2.1 ?_
    refine zj_istore9 (n := 140) rfl dX5_readGroup_138 rfl (Nat.le_of_ble_eq_true rfl) ?_
    refine zj_aload0 (n := 141) rfl dX5_readGroup_140 ?_
    refine zj_callV0 (n := 144) (a' := 0) (b' := 0) rfl dX5_readGroup_141 zm_X5_113 (by decide) (by decide) rfl (Nat.le_of_ble_eq_true rfl) (Nat.le_of_ble_eq_true rfl) (Nat.le_of_ble_eq_true rfl) (Nat.le_of_ble_eq_true rfl) (jX5_takeEnd hP16 ?_)
    intro M17 hG17 hP17
    have hF17 : zC9 M M17 := hF16.tr (zC9.of hG17)
    have hR17 := hR16.kf hG17
    refine zj_aload0 (n := 145) rfl dX5_readGroup_144 ?_
    refine zj_getiN (e := (sEnd B n (gp14 B n v s)).1) (n := 148) rfl dX5_readGroup_145 zf_X5_25 rfl (by decide) (by decide) hP17.2.1 ?_
    refine zj_ifN_ne (n := 151) (tgt := 312) rfl dX5_readGroup_148 (by decide) (by have := hP17.2.2.1; omega) (fun c148 => ?_) (fun c148 => ?_)
    · refine zj_return dX5_readGroup_312 rfl ?_
      rw [sEnd15 (Or.inl (show (sEnd B n (gp14 B n v s)).1 ≠ 0 by omega))] at h
      exact h M17 hF17 hP17 (hR17.rz hp) (fun q => absurd q (by omega))
    · refine zj_aload0 (n := 152) rfl dX5_readGroup_151 ?_
      refine zj_getr (n := 155) (q := 9) rfl dX5_readGroup_152 zf_X5_12 rfl (by decide) (by decide) rfl ?_
      refine zj_getr (n := 158) (q := 14) rfl dX5_readGroup_155 zf_X5_168 rfl (by decide) (by decide) rfl ?_
      refine zj_iload1 (n := 159) rfl dX5_readGroup_158 ?_
      refine zj_callV1 (n := 162) (a' := 0) (b' := 0) rfl dX5_readGroup_159 zm_X5_150 (by decide) (by decide) rfl (Nat.le_of_ble_eq_true rfl) (Nat.le_of_ble_eq_true rfl) (Nat.le_of_ble_eq_true rfl) (Nat.le_of_ble_eq_true rfl) (jX7_addNamed (x := nI x1) hR17.g.1 (by have := (gp14_ok (sEnd_ok c148).1).2.1; omega) ?_)
      intro M10 g1 g2 hT10 g4 g5 g6
      have hok : (gp14 B n v s).1 = 0 := (sEnd_ok c148).1
      obtain ⟨-, hc16, hbn, -, ⟨t3, ht3, htl3⟩, -⟩ := gp14_ok hok
      have q13 := (sNum_ok hok).1
      have q12 := (sTake_ok q13).1
      have q11 := (sNum_ok q12).1
      have q10 := (sTake_ok q11).1
      have q9 := (sNum_ok q10).1
      have q8 := (sTake_ok q9).1
      have q7 := (sNum_ok q8).1
      have q6 := (sTake_ok q7).1
      have q5 := (sNum_ok q6).1
      have q4 := (sTake_ok q5).1
      have q4e := (sErr_ok (by decide)).mp (sNext_ok.mp q4)
      have q3 := ((sErr_ok (by decide)).mp q4e.1).1
      have q2 := (sTake_ok q3).1
      have r1 := hx2 q2
      have r3 : o3 = some t3 := (hog q4e.1).trans ht3
      have r5 := hx8 q6
      have r7 := hx10 q8
      have r9 := hx12 q10
      have r11 := hx14 q12
      have r13 := hx16 hok
      have hv := vGrp_r (B := B) (n := n) (v := v) (s := s)
      have hqv := vGrp_q hp hok
      refine zj_istore10 (n := 164) rfl dX5_readGroup_162 rfl (Nat.le_of_ble_eq_true rfl) ?_
      refine zj_aload0 (n := 165) rfl dX5_readGroup_164 ?_
      refine zj_getr (n := 168) (q := 9) rfl dX5_readGroup_165 zf_X5_12 rfl (by decide) (by decide) rfl ?_
      refine zj_getr (n := 171) (q := 14) rfl dX5_readGroup_168 zf_X5_168 rfl (by decide) (by decide) rfl ?_
      refine zj_iload10 (n := 173) rfl dX5_readGroup_171 ?_
      refine zj_iconstN_0 (n := 174) rfl dX5_readGroup_173 ?_
      refine zj_iload3 (n := 175) rfl dX5_readGroup_174 ?_
      refine zj_callV3 (n := 178) (a' := 0) (b' := 0) rfl dX5_readGroup_175 zm_X5_154 (by decide) (by decide) rfl (Nat.le_of_ble_eq_true rfl) (Nat.le_of_ble_eq_true rfl) (Nat.le_of_ble_eq_true rfl) (Nat.le_of_ble_eq_true rfl) (jT_set hT10 (show v 8 < v 8 + 1 by omega) (by decide) ?_)
      refine zj_aload0 (n := 179) rfl dX5_readGroup_178 ?_
      refine zj_getr (n := 182) (q := 9) rfl dX5_readGroup_179 zf_X5_12 rfl (by decide) (by decide) rfl ?_
      refine zj_getr (n := 185) (q := 14) rfl dX5_readGroup_182 zf_X5_168 rfl (by decide) (by decide) rfl ?_
      refine zj_iload10 (n := 187) rfl dX5_readGroup_185 ?_
      refine zj_iconstN_1 (n := 188) rfl dX5_readGroup_187 ?_
      refine zj_iload4 (n := 190) rfl dX5_readGroup_188 ?_
      refine zj_callV3 (n := 193) (a' := 0) (b' := 0) rfl dX5_readGroup_190 zm_X5_154 (by decide) (by decide) rfl (Nat.le_of_ble_eq_true rfl) (Nat.le_of_ble_eq_true rfl) (Nat.le_of_ble_eq_true rfl) (Nat.le_of_ble_eq_true rfl) (jT_set (hT10.cg (by dsimp only; rw [zU_off (by decide)])) (show v 8 < v 8 + 1 by omega) (by decide) ?_)
      refine zj_aload0 (n := 194) rfl dX5_readGroup_193 ?_
      refine zj_getr (n := 197) (q := 9) rfl dX5_readGroup_194 zf_X5_12 rfl (by decide) (by decide) rfl ?_
      refine zj_getr (n := 200) (q := 14) rfl dX5_readGroup_197 zf_X5_168 rfl (by decide) (by decide) rfl ?_
      refine zj_iload10 (n := 202) rfl dX5_readGroup_200 ?_
      refine zj_iconstN_2 (n := 203) rfl dX5_readGroup_202 ?_
      refine zj_iload5 (n := 205) rfl dX5_readGroup_203 ?_
      refine zj_callV3 (n := 208) (a' := 0) (b' := 0) rfl dX5_readGroup_205 zm_X5_154 (by decide) (by decide) rfl (Nat.le_of_ble_eq_true rfl) (Nat.le_of_ble_eq_true rfl) (Nat.le_of_ble_eq_true rfl) (Nat.le_of_ble_eq_true rfl) (jT_set (hT10.cg (by dsimp only; rw [zU_off (by decide), zU_off (by decide)])) (show v 8 < v 8 + 1 by omega) (by decide) ?_)
      refine zj_aload0 (n := 209) rfl dX5_readGroup_208 ?_
      refine zj_getr (n := 212) (q := 9) rfl dX5_readGroup_209 zf_X5_12 rfl (by decide) (by decide) rfl ?_
      refine zj_getr (n := 215) (q := 14) rfl dX5_readGroup_212 zf_X5_168 rfl (by decide) (by decide) rfl ?_
      refine zj_iload10 (n := 217) rfl dX5_readGroup_215 ?_
      refine zj_iconstN_3 (n := 218) rfl dX5_readGroup_217 ?_
      refine zj_iload6 (n := 220) rfl dX5_readGroup_218 ?_
      refine zj_callV3 (n := 223) (a' := 0) (b' := 0) rfl dX5_readGroup_220 zm_X5_154 (by decide) (by decide) rfl (Nat.le_of_ble_eq_true rfl) (Nat.le_of_ble_eq_true rfl) (Nat.le_of_ble_eq_true rfl) (Nat.le_of_ble_eq_true rfl) (jT_set (hT10.cg (by dsimp only; rw [zU_off (by decide), zU_off (by decide), zU_off (by decide)])) (show v 8 < v 8 + 1 by omega) (by decide) ?_)
      refine zj_aload0 (n := 224) rfl dX5_readGroup_223 ?_
      refine zj_getr (n := 227) (q := 9) rfl dX5_readGroup_224 zf_X5_12 rfl (by decide) (by decide) rfl ?_
      refine zj_getr (n := 230) (q := 14) rfl dX5_readGroup_227 zf_X5_168 rfl (by decide) (by decide) rfl ?_
      refine zj_iload10 (n := 232) rfl dX5_readGroup_230 ?_
      refine zj_iconstN_4 (n := 233) rfl dX5_readGroup_232 ?_
      refine zj_iload7 (n := 235) rfl dX5_readGroup_233 ?_
      refine zj_callV3 (n := 238) (a' := 0) (b' := 0) rfl dX5_readGroup_235 zm_X5_154 (by decide) (by decide) rfl (Nat.le_of_ble_eq_true rfl) (Nat.le_of_ble_eq_true rfl) (Nat.le_of_ble_eq_true rfl) (Nat.le_of_ble_eq_true rfl) (jT_set (hT10.cg (by dsimp only; rw [zU_off (by decide), zU_off (by decide), zU_off (by decide), zU_off (by decide)])) (show v 8 < v 8 + 1 by omega) (by decide) ?_)
      refine zj_aload0 (n := 239) rfl dX5_readGroup_238 ?_
      refine zj_getr (n := 242) (q := 9) rfl dX5_readGroup_239 zf_X5_12 rfl (by decide) (by decide) rfl ?_
      refine zj_getr (n := 245) (q := 14) rfl dX5_readGroup_242 zf_X5_168 rfl (by decide) (by decide) rfl ?_
      refine zj_iload10 (n := 247) rfl dX5_readGroup_245 ?_
      refine zj_iconstN_5 (n := 248) rfl dX5_readGroup_247 ?_
      refine zj_iload8 (n := 250) rfl dX5_readGroup_248 ?_
      refine zj_callV3 (n := 253) (a' := 0) (b' := 0) rfl dX5_readGroup_250 zm_X5_154 (by decide) (by decide) rfl (Nat.le_of_ble_eq_true rfl) (Nat.le_of_ble_eq_true rfl) (Nat.le_of_ble_eq_true rfl) (Nat.le_of_ble_eq_true rfl) (jT_set (hT10.cg (by dsimp only; rw [zU_off (by decide), zU_off (by decide), zU_off (by decide), zU_off (by decide), zU_off (by decide)])) (show v 8 < v 8 + 1 by omega) (by decide) ?_)
      refine zj_aload0 (n := 254) rfl dX5_readGroup_253 ?_
      refine zj_getr (n := 257) (q := 9) rfl dX5_readGroup_254 zf_X5_12 rfl (by decide) (by decide) rfl ?_
      refine zj_getr (n := 260) (q := 14) rfl dX5_readGroup_257 zf_X5_168 rfl (by decide) (by decide) rfl ?_
      refine zj_iload10 (n := 262) rfl dX5_readGroup_260 ?_
      refine zj_bipushN (v := 7) (n := 264) rfl dX5_readGroup_262 (by decide) ?_
      refine zj_iload5 (n := 266) rfl dX5_readGroup_264 ?_
      refine zj_iconstN_1 (n := 267) rfl dX5_readGroup_266 ?_
      refine zj_iaddN (n := 268) rfl dX5_readGroup_267 ?_
      refine zj_iload7 (n := 270) rfl dX5_readGroup_268 ?_
      refine zj_imulN (n := 271) rfl dX5_readGroup_270 ?_
      refine zj_callV3 (n := 274) (a' := 0) (b' := 0) rfl dX5_readGroup_271 zm_X5_154 (by decide) (by decide) rfl (Nat.le_of_ble_eq_true rfl) (Nat.le_of_ble_eq_true rfl) (Nat.le_of_ble_eq_true rfl) (Nat.le_of_ble_eq_true rfl) (jT_set (hT10.cg (by dsimp only; rw [zU_off (by decide), zU_off (by decide), zU_off (by decide), zU_off (by decide), zU_off (by decide), zU_off (by decide)])) (show v 8 < v 8 + 1 by omega) (by decide) ?_)
      refine zj_aload0 (n := 275) rfl dX5_readGroup_274 ?_
      refine zj_getr (n := 278) (q := 9) rfl dX5_readGroup_275 zf_X5_12 rfl (by decide) (by decide) rfl ?_
      refine zj_getr (n := 281) (q := 14) rfl dX5_readGroup_278 zf_X5_168 rfl (by decide) (by decide) rfl ?_
      refine zj_iload10 (n := 283) rfl dX5_readGroup_281 ?_
      refine zj_bipushN (v := 9) (n := 285) rfl dX5_readGroup_283 (by decide) ?_
      refine zj_iload5 (n := 287) rfl dX5_readGroup_285 ?_
      refine zj_iload6 (n := 289) rfl dX5_readGroup_287 ?_
      refine zj_iaddN (n := 290) rfl dX5_readGroup_289 ?_
      refine zj_callV3 (n := 293) (a' := 0) (b' := 0) rfl dX5_readGroup_290 zm_X5_154 (by decide) (by decide) rfl (Nat.le_of_ble_eq_true rfl) (Nat.le_of_ble_eq_true rfl) (Nat.le_of_ble_eq_true rfl) (Nat.le_of_ble_eq_true rfl) (jT_set (hT10.cg (by dsimp only; rw [zU_off (by decide), zU_off (by decide), zU_off (by decide), zU_off (by decide), zU_off (by decide), zU_off (by decide), zU_off (by decide)])) (show v 8 < v 8 + 1 by omega) (by decide) ?_)
      have hM : ∀ a, a ≠ 15 → (zU (zU (zU (zU (zU (zU (zU (zU M10.1 15 (v 8 * 21 + 0) (zo o3)) 15 (v 8 * 21 + 1) (nI x8)) 15 (v 8 * 21 + 2) (nI x10)) 15 (v 8 * 21 + 3) (nI x12)) 15 (v 8 * 21 + 4) (nI x14)) 15 (v 8 * 21 + 5) (nI x16)) 15 (v 8 * 21 + 7) (nI ((x10 + 1) * x14))) 15 (v 8 * 21 + 9) (nI (x10 + x12))) a = M10.1 a := fun a ha => by rw [zU_off ha, zU_off ha, zU_off ha, zU_off ha, zU_off ha, zU_off ha, zU_off ha, zU_off ha]
      have hQ0 : zRq0 (zU (zU (zU (zU (zU (zU (zU (zU M10.1 15 (v 8 * 21 + 0) (zo o3)) 15 (v 8 * 21 + 1) (nI x8)) 15 (v 8 * 21 + 2) (nI x10)) 15 (v 8 * 21 + 3) (nI x12)) 15 (v 8 * 21 + 4) (nI x14)) 15 (v 8 * 21 + 5) (nI x16)) 15 (v 8 * 21 + 7) (nI ((x10 + 1) * x14))) 15 (v 8 * 21 + 9) (nI (x10 + x12)), M10.2) (vGrp B n v s) (v 8) := by
        refine hR17.grow hW hc16 (fun j hj => vGrp_off (by omega)) (fun a b1 b2 b3 b4 => (hM a b4).trans (g1 a b3 b4)) (hT10.cg (hM 14 (by decide))) (fun j hj => ?_) (fun j hj => ?_) ?_ ?_ ?_
        · dsimp only
          rw [zU_nj (by omega), zU_nj (by omega), zU_nj (by omega), zU_nj (by omega), zU_nj (by omega), zU_nj (by omega), zU_nj (by omega), zU_nj (by omega)]
          exact g4 j hj
        · obtain ⟨v0, v1, v2, v3, v4, v5, -⟩ := hv
          dsimp only
          rcases (show j = 0 ∨ j = 1 ∨ j = 2 ∨ j = 3 ∨ j = 4 ∨ j = 5 ∨ j = 6 by omega) with rfl | rfl | rfl | rfl | rfl | rfl | rfl
          · rw [zU_nj (by omega), zU_nj (by omega), zU_nj (by omega), zU_nj (by omega), zU_nj (by omega), zU_nj (by omega), zU_nj (by omega), zU_eq, v0, r3, ht3]; rfl
          · rw [zU_nj (by omega), zU_nj (by omega), zU_nj (by omega), zU_nj (by omega), zU_nj (by omega), zU_nj (by omega), zU_eq, v1, r5]
          · rw [zU_nj (by omega), zU_nj (by omega), zU_nj (by omega), zU_nj (by omega), zU_nj (by omega), zU_eq, v2, r7]
          · rw [zU_nj (by omega), zU_nj (by omega), zU_nj (by omega), zU_nj (by omega), zU_eq, v3, r9]
          · rw [zU_nj (by omega), zU_nj (by omega), zU_nj (by omega), zU_eq, v4, r11]
          · rw [zU_nj (by omega), zU_nj (by omega), zU_eq, v5, r13]
          · rw [zU_nj (by omega), zU_nj (by omega), zU_nj (by omega), zU_nj (by omega), zU_nj (by omega), zU_nj (by omega), zU_nj (by omega), zU_nj (by omega), vGrp_off (by omega), hp.2.2.2.2.1 (268 + 23 * v 8 + 6) (by omega) (by omega)]
            exact g5 6 (by decide)
        · dsimp only
          rw [zU_nj (by omega), zU_eq]
          show nI ((x10 + 1) * x14) = nI ((vGrp B n v s (268 + 23 * v 8 + 2) + 1) * vGrp B n v s (268 + 23 * v 8 + 4))
          rw [hv.2.2.1, hv.2.2.2.2.1, r7, r11]
        · dsimp only
          rw [zU_eq]
          show nI (x10 + x12) = nI (vGrp B n v s (268 + 23 * v 8 + 2) + vGrp B n v s (268 + 23 * v 8 + 3))
          rw [hv.2.2.1, hv.2.2.2.1, r7, r9]
        · dsimp only
          rw [zU_nj (by omega), zU_nj (by omega), zU_nj (by omega), zU_nj (by omega), zU_nj (by omega), zU_nj (by omega), zU_nj (by omega), zU_nj (by omega)]
          have hnm : vname (vGrp B n v s) (268 + 23 * v 8 + 17) = vnm B (tS B n (gp1 B n v s).2.2) (tE B n (gp1 B n v s).2.2) := vname_let hbn hv.2.2.2.2.2.2
          rw [hnm, ← r1]
          exact g6
      refine zj_gen (P := fun M12 => zC9 M M12 ∧ zRq0 M12 (vGrp B n v s) (v 8) ∧ zPs M12 n B (sEnd B n (gp14 B n v s)) ∧ zTN M12 12 6 6 (v 7) ∧ zTN M12 16 5 40 0 ∧ M12.1 9 = M17.1 9) ⟨hF17.tr ⟨fun a b1 b2 => (hM a (by omega)).trans (g1 a (by omega) (by omega)), g2⟩, hQ0, hP17.cg ((hM 104 (by decide)).trans (g1 104 (by decide) (by decide))) ((hM 100 (by decide)).trans (g1 100 (by decide) (by decide))) ((hM 101 (by decide)).trans (g1 101 (by decide) (by decide))), hR17.t.1.cg ((hM 12 (by decide)).trans (g1 12 (by decide) (by decide))), (hR17.rz hp).2.2.2.1.cg ((hM 16 (by decide)).trans (g1 16 (by decide) (by decide))), (hM 9 (by decide)).trans (g1 9 (by decide) (by decide))⟩ ?_
      intro M12 h12
      obtain ⟨hF12, hQ12, hP12, hT12, hT16, h912⟩ := h12
      refine zj_aload0 (n := 294) rfl dX5_readGroup_293 ?_
      refine zj_getr (n := 297) (q := 9) rfl dX5_readGroup_294 zf_X5_12 rfl (by decide) (by decide) rfl ?_
      refine zj_iload10 (n := 299) rfl dX5_readGroup_297 ?_
      refine zj_callV1 (n := 302) (a' := 0) (b' := 0) rfl dX5_readGroup_299 zm_X5_195 (by decide) (by decide) rfl (Nat.le_of_ble_eq_true rfl) (Nat.le_of_ble_eq_true rfl) (Nat.le_of_ble_eq_true rfl) (Nat.le_of_ble_eq_true rfl) (jX6_placeAll hQ12 hqv ?_)
      intro M13 b13 hF13 hs13 hT13 hN13 hbs hb13
      refine zj_ifB_ne (n := 305) (tgt := 312) rfl dX5_readGroup_302 (by decide) (fun c302 => ?_) (fun c302 => ?_)
      · refine zj_return dX5_readGroup_312 rfl ?_
        obtain ⟨u1, p1, hpl, hq1⟩ := hb13 c302
        rw [sEnd15 (Or.inr (by rw [hpl]; rfl))] at h
        have hi1 := plS_inv hqv _ u1 p1 hpl
        have h81 : u1 8 = v 8 := by rw [hi1.1 8 (by omega)]; exact hqv.2.1
        have hR13 : zRg M13 9 (vGrpF B n v s) := by
          rw [vGrpF_is hpl]
          rw [← hi1.sh] at hq1
          refine hq1.rg h81 hc16 (fun i hi => ?_)
          by_cases q : i < v 8
          · exact ((hi1.wf hqv hqv.2.2.2.1).sh (by rw [h81]; exact q)).2
          · have : i = v 8 := by omega
            subst this
            rw [hi1.sh]; exact hqv.2.2.2.1
        exact h M13 (hF12.tr ⟨fun a b1 b2 => hF13 a (by omega) (by omega), hs13⟩) (hP12.cg (hF13 104 (by decide) (by decide)) (hF13 100 (by decide) (by decide)) (hF13 101 (by decide) (by decide))) ⟨⟨_, hN13⟩, ⟨_, hT12.cg (hF13 12 (by decide) (by decide))⟩, ⟨_, hT13⟩, hT16.cg (hF13 16 (by decide) (by decide)), by rw [hF13 9 (by decide) (by decide), h912]; exact (hR17.rz hp).2.2.2.2.1, by rw [hF13 9 (by decide) (by decide), h912]; exact (hR17.rz hp).2.2.2.2.2⟩ (fun _ => hR13)
      · refine zj_aload0 (n := 306) rfl dX5_readGroup_305 ?_
        refine zj_iconstN_5 (n := 307) rfl dX5_readGroup_306 ?_
        refine zj_iload9 (n := 309) rfl dX5_readGroup_307 ?_
        refine zj_callV2 (n := 312) (a' := 0) (b' := 0) rfl dX5_readGroup_309 zm_X5_69 (by decide) (by decide) rfl (Nat.le_of_ble_eq_true rfl) (Nat.le_of_ble_eq_true rfl) (Nat.le_of_ble_eq_true rfl) (Nat.le_of_ble_eq_true rfl) (jX5_refuse (hP12.cg (hF13 104 (by decide) (by decide)) (hF13 100 (by decide) (by decide)) (hF13 101 (by decide) (by decide))) (by decide) ?_)
        intro M14 hG14 hP14
        refine zj_return dX5_readGroup_312 rfl ?_
        have hno : (plS (vGrp B n v s) (v 8) (vsh (vGrp B n v s) (v 8))).isSome = false := by rw [← hbs]; exact c302
        rw [sEnd15f c148 hno] at h
        have e14 : e14 = (gp14 B n v s).2.2 := he14 hok
        subst e14
        exact h M14 ((hF12.tr ⟨fun a b1 b2 => hF13 a (by omega) (by omega), hs13⟩).tr (zC9.of (zK23 hG14))) hP14 (zRz.kf (M := M13) ⟨⟨_, hN13⟩, ⟨_, hT12.cg (hF13 12 (by decide) (by decide))⟩, ⟨_, hT13⟩, hT16.cg (hF13 16 (by decide) (by decide)), by rw [hF13 9 (by decide) (by decide), h912]; exact (hR17.rz hp).2.2.2.2.1, by rw [hF13 9 (by decide) (by decide), h912]; exact (hR17.rz hp).2.2.2.2.2⟩ hG14) (fun q => absurd q (by rw [sRef_e c148]; simp))
