/-! THE CLASS: the text read -/
theorem pEnd_full {B : Nat → Nat} {n : Nat} : pEnd B n = pAll B n (p0 B n) 1400 := rfl
theorem zC1.c9 {M M1 : zM} (h : zC1 M M1) : zC9 M M1 := ⟨fun a h1 h2 => h.1 a (by omega) h2, h.2.1⟩
theorem zRg.ring0 {M : zM} {n : Nat} {B : Nat → Nat} (h1 : zTN M 10 8 16 0) (h3 : zTN M 12 6 6 0) (h5 : zTN M 14 21 10 0) (h7 : zTN M 16 5 40 0) (h8 : M.1 9 8 = nI 0) (h9 : M.1 9 9 = nI 0)
    (hs : M.1 9 4 = nI (tN B n (rg2 B n (0, 0, 0)).2.2) ∧ M.1 9 5 = nI (tN B n (rg4 B n (0, 0, 0)).2.2) ∧ M.1 9 6 = nI (tN B n (rg6 B n (0, 0, 0)).2.2) ∧ M.1 9 7 = nI (vRul B n (rg8 B n (0, 0, 0)).2.2)) : zRg M 9 (vRing B n (fun _ => 0) (0, 0, 0)) := by
  have e : ∀ j, 4 ≤ j → vRing B n (fun _ => 0) (0, 0, 0) j = 0 := fun j hj => by
    unfold vRing vset
    rw [if_neg (by omega), if_neg (by omega), if_neg (by omega), if_neg (by omega)]
  have e0 : vRing B n (fun _ => 0) (0, 0, 0) 0 = tN B n (rg2 B n (0, 0, 0)).2.2 := rfl
  have e1 : vRing B n (fun _ => 0) (0, 0, 0) 1 = tN B n (rg4 B n (0, 0, 0)).2.2 := rfl
  have e2 : vRing B n (fun _ => 0) (0, 0, 0) 2 = tN B n (rg6 B n (0, 0, 0)).2.2 := rfl
  have e3 : vRing B n (fun _ => 0) (0, 0, 0) 3 = vRul B n (rg8 B n (0, 0, 0)).2.2 := rfl
  refine ⟨zRi9, ⟨by rw [e 6 (by decide)]; exact h1, fun i hi => ?_⟩, ⟨by rw [e 7 (by decide)]; exact h3, fun i hi => ?_⟩, ⟨by rw [e 8 (by decide)]; exact h5, fun i hi => ?_⟩, ⟨by rw [e 9 (by decide)]; exact h7, fun i hi => ?_⟩, fun j hj => ?_⟩
  · rw [e 6 (by decide)] at hi; omega
  · rw [e 7 (by decide)] at hi; omega
  · rw [e 8 (by decide)] at hi; omega
  · rw [e 9 (by decide)] at hi; omega
  · rcases (show j = 0 ∨ j = 1 ∨ j = 2 ∨ j = 3 ∨ j = 4 ∨ j = 5 by omega) with rfl | rfl | rfl | rfl | rfl | rfl
    · rw [e0]; exact hs.1
    · rw [e1]; exact hs.2.1
    · rw [e2]; exact hs.2.2.1
    · rw [e3]; exact hs.2.2.2
    · rw [e 4 (by decide)]; exact h8
    · rw [e 5 (by decide)]; exact h9
theorem z_ps48 {n k : Nat} {B : Nat → Nat} {s : zS} {v : zV} {Q : Option Value → zM → Prop} {X : String → zM → Prop} {M : zM} (hP : zPs M n B s) (hs : s.1 = 0) (hR : zRg M 9 v) (hZ : zRz M) (hp : zPv v) (h : ∀ M', zC9 M M' → zPs M' n B (stS B n v s) → zRz M' → ((stS B n v s).1 = 0 → zRg M' 9 (stV B n v s)) → zJ yX5_parse cX5_parse 2 (some .boolean) rX5_parse Q X 0 0 108 [some (.ref 104), some (.int (nI k))] [] M') : zJ yX5_parse cX5_parse 2 (some .boolean) rX5_parse Q X 0 0 48 [some (.ref 104), some (.int (nI k))] [] M := by
  obtain ⟨-, -, -, -, e0, hen0, hT0, he0⟩ := id hP
  have he0 := he0 hs
  subst he0
  refine zj_aload0 (n := 49) rfl dX5_parse_48 ?_
  refine zj_getkw (i := 8) (n := 52) rfl dX5_parse_49 (by decide) rfl zs_X5_41 ?_
  refine zj_callV1 (n := 55) (a' := 0) (b' := 0) rfl dX5_parse_52 zm_X5_47 (by decide) (by decide) rfl (Nat.le_of_ble_eq_true rfl) (Nat.le_of_ble_eq_true rfl) (Nat.le_of_ble_eq_true rfl) (Nat.le_of_ble_eq_true rfl) (jX5_isAt (i := 8) hP (by decide) ?_)
  intro b8 hb8
  refine zj_ifB_eq (n := 58) (tgt := 65) rfl dX5_parse_55 (by decide) (fun c55 => ?_) (fun c55 => ?_)
  · refine zj_aload0 (n := 66) rfl dX5_parse_65 ?_
    refine zj_getkw (i := 13) (n := 69) rfl dX5_parse_66 (by decide) rfl zs_X5_54 ?_
    refine zj_callV1 (n := 72) (a' := 0) (b' := 0) rfl dX5_parse_69 zm_X5_47 (by decide) (by decide) rfl (Nat.le_of_ble_eq_true rfl) (Nat.le_of_ble_eq_true rfl) (Nat.le_of_ble_eq_true rfl) (Nat.le_of_ble_eq_true rfl) (jX5_isAt (i := 13) hP (by decide) ?_)
    intro b13 hb13
    refine zj_ifB_eq (n := 75) (tgt := 82) rfl dX5_parse_72 (by decide) (fun c72 => ?_) (fun c72 => ?_)
    · refine zj_aload0 (n := 83) rfl dX5_parse_82 ?_
      refine zj_getkw (i := 16) (n := 86) rfl dX5_parse_83 (by decide) rfl zs_X5_60 ?_
      refine zj_callV1 (n := 89) (a' := 0) (b' := 0) rfl dX5_parse_86 zm_X5_47 (by decide) (by decide) rfl (Nat.le_of_ble_eq_true rfl) (Nat.le_of_ble_eq_true rfl) (Nat.le_of_ble_eq_true rfl) (Nat.le_of_ble_eq_true rfl) (jX5_isAt (i := 16) hP (by decide) ?_)
      intro b16 hb16
      refine zj_ifB_eq (n := 92) (tgt := 99) rfl dX5_parse_89 (by decide) (fun c89 => ?_) (fun c89 => ?_)
      · refine zj_aload0 (n := 100) rfl dX5_parse_99 ?_
        refine zj_iconstN_1 (n := 101) rfl dX5_parse_100 ?_
        refine zj_aload0 (n := 102) rfl dX5_parse_101 ?_
        refine zj_getiN (e := tS B n s.2.2) (n := 105) rfl dX5_parse_102 zf_X5_66 rfl (by decide) (by decide) hT0.2.1 ?_
        refine zj_callV2 (n := 108) (a' := 0) (b' := 0) rfl dX5_parse_105 zm_X5_69 (by decide) (by decide) rfl (Nat.le_of_ble_eq_true rfl) (Nat.le_of_ble_eq_true rfl) (Nat.le_of_ble_eq_true rfl) (Nat.le_of_ble_eq_true rfl) (jX5_refuse hP (by decide) ?_)
        intro M1 hG1 hP1
        have n8 : sAt B n s.2.2 8 = false := by rw [← hb8 hs]; exact c55
        have n13 : sAt B n s.2.2 13 = false := by rw [← hb13 hs]; exact c72
        have n16 : sAt B n s.2.2 16 = false := by rw [← hb16 hs]; exact c89
        have eS : stS B n v s = sEnd B n (sRef 1 (tS B n s.2.2) s) := by unfold stS; rw [if_neg (by rw [n8]; simp), if_neg (by rw [n13]; simp), if_neg (by rw [n16]; simp)]
        have eV : stV B n v s = v := by unfold stV; rw [if_neg (by rw [n8]; simp), if_neg (by rw [n13]; simp), if_neg (by rw [n16]; simp)]
        rw [eS, eV] at h
        rw [sEnd_no (by rw [sRef_e hs]; simp)] at h
        exact h M1 (zC9.of (zK23 hG1)) hP1 (hZ.kf hG1) (fun q => absurd q (by rw [sRef_e hs]; simp))
      · refine zj_aload0 (n := 93) rfl dX5_parse_92 ?_
        refine zj_callV0 (n := 96) (a' := 0) (b' := 0) rfl dX5_parse_93 zm_X5_63 (by decide) (by decide) rfl (Nat.le_of_ble_eq_true rfl) (Nat.le_of_ble_eq_true rfl) (Nat.le_of_ble_eq_true rfl) (Nat.le_of_ble_eq_true rfl) (jX5_readGroup hP hs hR hp (by rw [← hb16 hs]; exact c89) ?_)
        intro M1 hF1 hP1 hZ1 hR1
        refine zj_goto (tgt := 108) dX5_parse_96 (by decide) ?_
        have n8 : sAt B n s.2.2 8 = false := by rw [← hb8 hs]; exact c55
        have n13 : sAt B n s.2.2 13 = false := by rw [← hb13 hs]; exact c72
        have y16 : sAt B n s.2.2 16 = true := by rw [← hb16 hs]; exact c89
        have eS : stS B n v s = sEnd B n (gp15 B n v s) := by unfold stS; rw [if_neg (by rw [n8]; simp), if_neg (by rw [n13]; simp), if_pos y16]
        have eV : stV B n v s = vGrpF B n v s := by unfold stV; rw [if_neg (by rw [n8]; simp), if_neg (by rw [n13]; simp), if_pos y16]
        rw [eS, eV] at h
        exact h M1 hF1 hP1 hZ1 hR1
    · refine zj_aload0 (n := 76) rfl dX5_parse_75 ?_
      refine zj_callV0 (n := 79) (a' := 0) (b' := 0) rfl dX5_parse_76 zm_X5_57 (by decide) (by decide) rfl (Nat.le_of_ble_eq_true rfl) (Nat.le_of_ble_eq_true rfl) (Nat.le_of_ble_eq_true rfl) (Nat.le_of_ble_eq_true rfl) (jX5_readTenant hP hs hR hp (by rw [← hb13 hs]; exact c72) ?_)
      intro M1 hF1 hP1 hZ1 hR1
      refine zj_goto (tgt := 108) dX5_parse_79 (by decide) ?_
      have n8 : sAt B n s.2.2 8 = false := by rw [← hb8 hs]; exact c55
      have y13 : sAt B n s.2.2 13 = true := by rw [← hb13 hs]; exact c72
      have eS : stS B n v s = sEnd B n (tn6 B n v s) := by unfold stS; rw [if_neg (by rw [n8]; simp), if_pos y13]
      have eV : stV B n v s = vTen B n v s := by unfold stV; rw [if_neg (by rw [n8]; simp), if_pos y13]
      rw [eS, eV] at h
      exact h M1 hF1 hP1 hZ1 hR1
  · refine zj_aload0 (n := 59) rfl dX5_parse_58 ?_
    refine zj_callV0 (n := 62) (a' := 0) (b' := 0) rfl dX5_parse_59 zm_X5_51 (by decide) (by decide) rfl (Nat.le_of_ble_eq_true rfl) (Nat.le_of_ble_eq_true rfl) (Nat.le_of_ble_eq_true rfl) (Nat.le_of_ble_eq_true rfl) (jX5_readNode hP hs hR hp (by rw [← hb8 hs]; exact c55) ?_)
    intro M1 hF1 hP1 hZ1 hR1
    refine zj_goto (tgt := 108) dX5_parse_62 (by decide) ?_
    have y8 : sAt B n s.2.2 8 = true := by rw [← hb8 hs]; exact c55
    have eS : stS B n v s = sEnd B n (nd10 B n v s) := by unfold stS; rw [if_pos y8]
    have eV : stV B n v s = vNode B n v s := by unfold stV; rw [if_pos y8]
    rw [eS, eV] at h
    exact h M1 hF1 hP1 hZ1 hR1
theorem z_ps114 {n : Nat} {B : Nat → Nat} {s : zS} {Q : Option Value → zM → Prop} {X : String → zM → Prop} {M : zM} (hP : zPs M n B s) (h : Q (some (.int (zb (decide (s.1 = 0))))) M) : zJ yX5_parse cX5_parse 2 (some .boolean) rX5_parse Q X 0 0 114 [some (.ref 104), none] [] M := by
  refine zj_aload0 (n := 115) rfl dX5_parse_114 ?_
  refine zj_getiN (e := s.1) (n := 118) rfl dX5_parse_115 zf_X5_25 rfl (by decide) (by decide) hP.2.1 ?_
  refine zj_ifN_ne (n := 121) (tgt := 125) rfl dX5_parse_118 (by decide) (by have := hP.2.2.1; omega) (fun c118 => ?_) (fun c118 => ?_)
  · refine zj_iconstN_0 (n := 126) rfl dX5_parse_125 ?_
    refine zj_ireturn dX5_parse_126 rfl rfl ?_
    rw [decide_eq_false (by omega)] at h
    exact h
  · refine zj_iconstN_1 (n := 122) rfl dX5_parse_121 ?_
    refine zj_goto (tgt := 126) dX5_parse_122 (by decide) ?_
    refine zj_ireturn dX5_parse_126 rfl rfl ?_
    rw [decide_eq_true (by omega)] at h
    exact h
theorem jX5_parse {n : Nat} {B : Nat → Nat} {Q : Option Value → zM → Prop} {X : String → zM → Prop} {M : zM} (hB : zBy M 100 n B) (hZ : zRz M) (h : ∀ M', zC9 M M' → zPs M' n B (pEnd B n).1 → zRz M' → ((pEnd B n).1.1 = 0 → zRg M' 9 (pEnd B n).2) → Q (some (.int (zb (decide ((pEnd B n).1.1 = 0))))) M') : zJ yX5_parse cX5_parse 2 (some .boolean) rX5_parse Q X rX5_parse.cells rX5_parse.slots 0 (zEnt 2 [.ref 104]) [] M := by
  obtain ⟨⟨za, hz1⟩, ⟨zb_, hz3⟩, ⟨zc, hz5⟩, hz7, hz8, hz9⟩ := id hZ
  show zJ yX5_parse cX5_parse 2 (some .boolean) rX5_parse Q X 0 0 0 [some (.ref 104), none] [] M
  refine zj_aload0 (n := 1) rfl dX5_parse_0 ?_
  refine zj_getr (n := 4) (q := 9) rfl dX5_parse_1 zf_X5_12 rfl (by decide) (by decide) rfl ?_
  refine zj_callV0 (n := 7) (a' := 0) (b' := 0) rfl dX5_parse_4 zm_X5_22 (by decide) (by decide) rfl (Nat.le_of_ble_eq_true rfl) (Nat.le_of_ble_eq_true rfl) (Nat.le_of_ble_eq_true rfl) (Nat.le_of_ble_eq_true rfl) (jX6_clearThings zRi9 hz1 hz3 hz5 ?_)
  intro M1 hF1 hs1 g1 g3 g5
  refine zj_aload0 (n := 8) rfl dX5_parse_7 ?_
  refine zj_iconstN_0 (n := 9) rfl dX5_parse_8 ?_
  refine zj_puti (n := 12) rfl dX5_parse_9 zp_X5_25 rfl (by decide) (by decide) ?_
  refine zj_aload0 (n := 13) rfl dX5_parse_12 ?_
  refine zj_iconstN_0 (n := 14) rfl dX5_parse_13 ?_
  refine zj_puti (n := 17) rfl dX5_parse_14 zp_X5_29 rfl (by decide) (by decide) ?_
  refine zj_aload0 (n := 18) rfl dX5_parse_17 ?_
  refine zj_callV0 (n := 21) (a' := 0) (b' := 0) rfl dX5_parse_18 zm_X5_32 (by decide) (by decide) rfl (Nat.le_of_ble_eq_true rfl) (Nat.le_of_ble_eq_true rfl) (Nat.le_of_ble_eq_true rfl) (Nat.le_of_ble_eq_true rfl) (jX5_nextTok0 (e := 0) (M := (zU (zU M1.1 104 2 (nI 0)) 104 6 (nI 0), M1.2)) (hB.cg (by dsimp only; rw [zU_off (by decide), zU_off (by decide)]; exact hF1 100 (by decide) (by decide) (by decide)) (by dsimp only; rw [zU_off (by decide), zU_off (by decide)]; exact hF1 101 (by decide) (by decide) (by decide))) (by dsimp only; rw [zU_nj (by decide), zU_eq]) (by dsimp only; rw [zU_eq]) (Nat.zero_le n) ?_)
  intro M2 hG2 hK2
  have hC2 : M2.1 104 2 = nI 0 := by rw [hG2.2.2 2 rfl]; dsimp only; rw [zU_nj (by decide), zU_eq]
  have hF2 : ∀ a, a ≠ 104 → M2.1 a = M1.1 a := fun a ha => by rw [hG2.1 a ha]; dsimp only; rw [zU_off ha, zU_off ha]
  have hP2 : zPs M2 n B (0, 0, 0) := ⟨hB.cg (by rw [hF2 100 (by decide)]; exact hF1 100 (by decide) (by decide) (by decide)) (by rw [hF2 101 (by decide)]; exact hF1 101 (by decide) (by decide) (by decide)), hC2, by decide, fun q => absurd rfl q, 0, Nat.zero_le n, hK2, fun _ => rfl⟩
  have hz2 : zC9 M M2 := ⟨fun a q1 q2 => by rw [hF2 a q2]; exact hF1 a (by omega) (by omega) (by omega), by rw [hG2.2.1]; exact hs1⟩
  refine zj_aload0 (n := 22) rfl dX5_parse_21 ?_
  refine zj_callV0 (n := 25) (a' := 0) (b' := 0) rfl dX5_parse_22 zm_X5_35 (by decide) (by decide) rfl (Nat.le_of_ble_eq_true rfl) (Nat.le_of_ble_eq_true rfl) (Nat.le_of_ble_eq_true rfl) (Nat.le_of_ble_eq_true rfl) (jX5_readRing hP2 ?_)
  intro M4 hF4 hP4 hx4
  have hF24 : zC9 M M4 := hz2.tr hF4.c9
  have h4 : ∀ a, a ≠ 9 → a ≠ 104 → M4.1 a = M1.1 a := fun a q1 q2 => by rw [hF4.1 a q1 q2, hF2 a q2]
  have t1 := g1.cg (h4 10 (by decide) (by decide))
  have t3 := g3.cg (h4 12 (by decide) (by decide))
  have t5 := g5.cg (h4 14 (by decide) (by decide))
  have t7 := hz7.cg ((h4 16 (by decide) (by decide)).trans (hF1 16 (by decide) (by decide) (by decide)))
  have t8 : M4.1 9 8 = nI 0 := by rw [hF4.2.2 8 (by decide), hF2 9 (by decide), hF1 9 (by decide) (by decide) (by decide)]; exact hz8
  have t9 : M4.1 9 9 = nI 0 := by rw [hF4.2.2 9 (by decide), hF2 9 (by decide), hF1 9 (by decide) (by decide) (by decide)]; exact hz9
  have hZ4 : zRz M4 := ⟨⟨_, t1⟩, ⟨_, t3⟩, ⟨_, t5⟩, t7, t8, t9⟩
  have hR4 : (sEnd B n (rg9 B n (0, 0, 0))).1 = 0 → zRg M4 9 (vRing B n (fun _ => 0) (0, 0, 0)) := fun q => zRg.ring0 t1 t3 t5 t7 t8 t9 (hx4 (sEnd_ok q).1)
  refine zj_iconstN_0 (n := 26) rfl dX5_parse_25 ?_
  refine zj_istore1 (n := 27) rfl dX5_parse_26 rfl (Nat.le_of_ble_eq_true rfl) ?_
  refine zFind_rule (P := fun k => ∀ M3, zC9 M M3 → zPs M3 n B (pAll B n (p0 B n) k).1 → zRz M3 → ((pAll B n (p0 B n) k).1.1 = 0 → zRg M3 9 (pAll B n (p0 B n) k).2) → zJ yX5_parse cX5_parse 2 (some .boolean) rX5_parse Q X 0 0 27 [some (.ref 104), some (.int (nI k))] [] M3) (n := 1400) (p := fun k => !pGo B n (pAll B n (p0 B n) k)) ?_ ?_ M4 hF24 hP4 hZ4 hR4
  · intro k hk hf hkk M3 hF3 hP3 hZ3 hv3
    refine zj_iload1 (n := 28) rfl dX5_parse_27 ?_
    refine zj_sipushN (v := 1400) (n := 31) rfl dX5_parse_28 (by decide) ?_
    refine zj_icmpN_ge (n := 34) (tgt := 114) rfl dX5_parse_31 (by decide) (by omega) (by omega) (fun c31 => by omega) (fun c31 => ?_)
    refine zj_aload0 (n := 35) rfl dX5_parse_34 ?_
    refine zj_getiN (e := (pAll B n (p0 B n) k).1.1) (n := 38) rfl dX5_parse_35 zf_X5_25 rfl (by decide) (by decide) hP3.2.1 ?_
    refine zj_ifN_ne (n := 41) (tgt := 114) rfl dX5_parse_38 (by decide) (by have := hP3.2.2.1; omega) (fun c38 => ?_) (fun c38 => ?_)
    · have hng : pGo B n (pAll B n (p0 B n) k) = false := by unfold pGo; rw [decide_eq_false (show ¬ (pAll B n (p0 B n) k).1.1 = 0 by omega)]; rfl
      have eE := pEnd_at (show k ≤ 1400 by omega) hng
      rw [eE] at h
      refine zj_keep [true, false] ?_
      exact z_ps114 hP3 (h M3 hF3 hP3 hZ3 hv3)
    · refine zj_aload0 (n := 42) rfl dX5_parse_41 ?_
      refine zj_getiN (e := tK B n (pAll B n (p0 B n) k).1.2.2) (n := 45) rfl dX5_parse_42 zf_X5_38 rfl (by decide) (by decide) (by obtain ⟨-, -, -, -, e3, -, hK3, he3⟩ := id hP3; rw [← he3 (by omega)]; exact hK3.1) ?_
      refine zj_ifN_eq (n := 48) (tgt := 114) rfl dX5_parse_45 (by decide) (by have : tK B n (pAll B n (p0 B n) k).1.2.2 ≤ 3 := sK_le; omega) (fun c45 => ?_) (fun c45 => ?_)
      · have hng : pGo B n (pAll B n (p0 B n) k) = false := by unfold pGo; rw [show tK B n (pAll B n (p0 B n) k).1.2.2 = 0 by omega]; simp
        have eE := pEnd_at (show k ≤ 1400 by omega) hng
        rw [eE] at h
        refine zj_keep [true, false] ?_
        exact z_ps114 hP3 (h M3 hF3 hP3 hZ3 hv3)
      · have hs3 : (pAll B n (p0 B n) k).1.1 = 0 := by omega
        refine z_ps48 hP3 hs3 (hv3 hs3) hZ3 (pAll_ok k hs3).1 ?_
        intro M6 hF6 hP6 hZ6 hR6
        refine zj_iincN1 (n := 111) rfl dX5_parse_108 rfl (Nat.le_of_ble_eq_true rfl) ?_
        refine zj_goto (tgt := 27) dX5_parse_111 (by decide) ?_
        have hgo : pGo B n (pAll B n (p0 B n) k) = true := by
          unfold pGo
          rw [decide_eq_true hs3, show (tK B n (pAll B n (p0 B n) k).1.2.2 == 0) = false from beq_false_of_ne (by omega)]
          rfl
        have eI : pAll B n (p0 B n) (k + 1) = (stS B n (pAll B n (p0 B n) k).2 (pAll B n (p0 B n) k).1, stV B n (pAll B n (p0 B n) k).2 (pAll B n (p0 B n) k).1) := by rw [pAll_succ]; unfold pIt; rw [hgo]; rfl
        exact hkk (by rw [hgo]; rfl) M6 (hF3.tr hF6) (by rw [eI]; exact hP6) hZ6 (by rw [eI]; exact hR6)
  · intro hf M3 hF3 hP3 hZ3 hv3
    refine zj_iload1 (n := 28) rfl dX5_parse_27 ?_
    refine zj_sipushN (v := 1400) (n := 31) rfl dX5_parse_28 (by decide) ?_
    refine zj_icmpN_ge (n := 34) (tgt := 114) rfl dX5_parse_31 (by decide) (by omega) (by omega) (fun c31 => ?_) (fun c31 => by omega)
    have eE := @pEnd_full B n
    rw [eE] at h
    refine zj_keep [true, false] ?_
    exact z_ps114 hP3 (h M3 hF3 hP3 hZ3 hv3)
def zLc (M M' : zM) : Prop := (∀ a, 98 < a → a ≠ 100 → a ≠ 104 → a ≠ 116 → M'.1 a = M.1 a) ∧ M'.2 = M.2
theorem zBy.z0 {M : zM} {k n : Nat} {B : Nat → Nat} (hk : k = 100 ∨ k = 102) : zBy (zU M.1 k 1 (nI 0), M.2) k 0 B := ⟨hk, zUe, Nat.zero_le _, fun j hj => absurd hj (by omega)⟩
theorem jX9_load {n un : Nat} {B : Nat → Nat} {v : zV} {uv : Nat → zV} {Q : Option Value → zM → Prop} {X : String → zM → Prop} {M : zM} (hC : zCl M v) (hW : zWF v) (hU : zUd M un uv) (hB : zBy M 100 n B) (hZ : zRz M) (h : ∀ M', zLc M M' → zCl M' (if (pEnd B n).1.1 = 0 then (pEnd B n).2 else v) → zUd M' (if (pEnd B n).1.1 = 0 then vkN un else un) (if (pEnd B n).1.1 = 0 then vkU un uv v else uv) → zBy M' 100 0 B → zRz M' → M'.1 104 2 = nI (pEnd B n).1.1 → ((pEnd B n).1.1 ≠ 0 → M'.1 104 3 = nI (pEnd B n).1.2.1) → Q (some (.int (if (pEnd B n).1.1 = 0 then nI ((pEnd B n).2 8) else -4))) M') : zJ yX9_load cX9_load 2 (some .int) rX9_load Q X rX9_load.cells rX9_load.slots 0 (zEnt 2 [.ref 99]) [] M := by
  show zJ yX9_load cX9_load 2 (some .int) rX9_load Q X 0 0 0 [some (.ref 99), none] [] M
  refine zj_aload0 (n := 1) rfl dX9_load_0 ?_
  refine zj_getr (n := 4) (q := 104) rfl dX9_load_1 zf_X9_26 rfl (by decide) rfl rfl ?_
  refine zj_callV0 (n := 7) (a' := 0) (b' := 0) rfl dX9_load_4 zm_X9_79 (by decide) (by decide) rfl (Nat.le_of_ble_eq_true rfl) (Nat.le_of_ble_eq_true rfl) (Nat.le_of_ble_eq_true rfl) (Nat.le_of_ble_eq_true rfl) (jX5_parse hB hZ ?_)
  intro M1 hF1 hP1 hZ1 hR1
  refine zj_istore1 (n := 8) rfl dX9_load_7 rfl (Nat.le_of_ble_eq_true rfl) ?_
  refine zj_aload0 (n := 9) rfl dX9_load_8 ?_
  refine zj_getr (n := 12) (q := 100) rfl dX9_load_9 zf_X9_14 rfl (by decide) rfl rfl ?_
  refine zj_iconstN_0 (n := 13) rfl dX9_load_12 ?_
  refine zj_callV1 (n := 16) (a' := 0) (b' := 0) rfl dX9_load_13 zm_X9_76 (by decide) (by decide) rfl (Nat.le_of_ble_eq_true rfl) (Nat.le_of_ble_eq_true rfl) (Nat.le_of_ble_eq_true rfl) (Nat.le_of_ble_eq_true rfl) (jX1_cut (m := 0) (Or.inl rfl) ?_)
  refine zj_gen (P := fun M2 => zC9 M M1 ∧ M2.1 = zU M1.1 100 1 (nI 0) ∧ M2.2 = M1.2 ∧ zBy M2 100 0 B) ⟨hF1, rfl, rfl, zBy.z0 (n := n) (Or.inl rfl)⟩ ?_
  intro M2 h2
  obtain ⟨-, e2, s2, hB2⟩ := h2
  have hF2 : ∀ a, ¬ (9 ≤ a ∧ a ≤ 17) → a ≠ 104 → a ≠ 100 → M2.1 a = M.1 a := fun a q1 q2 q3 => by rw [e2, zU_off q3]; exact hF1.1 a q1 q2
  have hE2 : ∀ a, a ≠ 100 → M2.1 a = M1.1 a := fun a q => by rw [e2, zU_off q]
  have hC2 : zCl M2 v := ⟨hC.1.cg (fun a _ q => hF2 a (by omega) (by omega) (by omega)), hC.2.1.cg (fun a q1 q2 => hF2 a (by omega) (by omega) (by omega)), hC.2.2.1.cg (hF2 _ (by decide) (by decide) (by decide)), hC.2.2.2.cg (hF2 _ (by decide) (by decide) (by decide))⟩
  have hU2 : zUd M2 un uv := hU.cg (fun a q => hF2 a (by omega) (by omega) (by omega))
  have hc2 := hP1.2.1
  have hp2 := hP1.2.2.2.1
  refine zj_iload1 (n := 17) rfl dX9_load_16 ?_
  refine zj_ifB_ne (n := 20) (tgt := 23) rfl dX9_load_17 (by decide) (fun c17 => ?_) (fun c17 => ?_)
  · refine zj_aload0 (n := 24) rfl dX9_load_23 ?_
    refine zj_getr (n := 27) (q := 116) rfl dX9_load_24 zf_X9_54 rfl (by decide) rfl rfl ?_
    refine zj_aload0 (n := 28) rfl dX9_load_27 ?_
    refine zj_getr (n := 31) (q := 0) rfl dX9_load_28 zf_X9_33 rfl (by decide) rfl rfl ?_
    refine zj_callV1 (n := 34) (a' := 0) (b' := 0) rfl dX9_load_31 zm_X9_83 (by decide) (by decide) rfl (Nat.le_of_ble_eq_true rfl) (Nat.le_of_ble_eq_true rfl) (Nat.le_of_ble_eq_true rfl) (Nat.le_of_ble_eq_true rfl) (jX8_keep hU2 hC2.1 hW ?_)
    intro M3 hF3 hs3 hU3
    have hok : (pEnd B n).1.1 = 0 := of_decide_eq_true c17
    have hpv := pEnd_ok hok
    have hR3 : zRg M3 9 (pEnd B n).2 := (hR1 hok).cg (fun a q1 q2 => by rw [hF3 a (by omega) (by omega), hE2 a (by omega)])
    refine zj_aload0 (n := 35) rfl dX9_load_34 ?_
    refine zj_getr (n := 38) (q := 0) rfl dX9_load_35 zf_X9_33 rfl (by decide) rfl rfl ?_
    refine zj_aload0 (n := 39) rfl dX9_load_38 ?_
    refine zj_getr (n := 42) (q := 104) rfl dX9_load_39 zf_X9_26 rfl (by decide) rfl rfl ?_
    refine zj_getr (n := 45) (q := 9) rfl dX9_load_42 zf_X9_87 rfl (by decide) (by decide) rfl ?_
    refine zj_callV1 (n := 48) (a' := 0) (b' := 0) rfl dX9_load_45 zm_X9_88 (by decide) (by decide) rfl (Nat.le_of_ble_eq_true rfl) (Nat.le_of_ble_eq_true rfl) (Nat.le_of_ble_eq_true rfl) (Nat.le_of_ble_eq_true rfl) (jX6_copyFrom (r := 0) (q := 9) (hC2.1.f.cg (fun a h1 h2 => hF3 a (by omega) (by omega))) hR3 hpv.1 (by decide) ?_)
    intro M4 hF4 hs4 hR4
    refine zj_aload0 (n := 49) rfl dX9_load_48 ?_
    refine zj_getr (n := 52) (q := 0) rfl dX9_load_49 zf_X9_33 rfl (by decide) rfl rfl ?_
    refine zj_getr (n := 55) (q := 5) rfl dX9_load_52 zf_X9_91 rfl (by decide) rfl rfl ?_
    refine zj_getiN (e := (pEnd B n).2 8) (n := 58) rfl dX9_load_55 zf_X9_95 rfl (by decide) rfl hR4.g.1.2.2.2.1 ?_
    refine zj_ireturn dX9_load_58 rfl rfl ?_
    rw [if_pos hok, if_pos hok, if_pos hok, if_pos hok] at h
    have hE4 : ∀ a, 98 < a → a ≠ 100 → a ≠ 116 → M4.1 a = M1.1 a := fun a q1 q2 q3 => by rw [hF4 a (by omega), hF3 a (by omega) q3, hE2 a q2]
    refine h M4 ⟨fun a q1 q2 q3 q4 => by rw [hE4 a q1 q2 q4]; exact hF1.1 a (by omega) q3, by rw [hs4, hs3, s2]; exact hF1.2⟩ ⟨hR4, hC2.2.1.cg (fun a q1 q2 => by rw [hF4 a (by omega), hF3 a (by omega) (by omega)]), hC2.2.2.1.cg (by rw [hF4 _ (by decide), hF3 _ (by decide) (by decide)]), hC2.2.2.2.cg (by rw [hF4 _ (by decide), hF3 _ (by decide) (by decide)])⟩ (hU3.cg (fun a q => hF4 a (by omega))) (hB2.cg (by rw [hF4 _ (by decide), hF3 _ (by decide) (by decide)]) (by rw [hF4 _ (by decide), hF3 _ (by decide) (by decide)])) (hZ1.cg (fun a q1 q2 => by rw [hF4 a (by omega), hF3 a (by omega) (by omega), hE2 a (by omega)])) (by rw [hE4 104 (by decide) (by decide) (by decide)]; exact hc2) (fun q => by rw [hE4 104 (by decide) (by decide) (by decide)]; exact hp2 q)
  · refine zj_bipush (v := (-4)) (n := 22) rfl dX9_load_20 (by decide) ?_
    refine zj_ireturn dX9_load_22 rfl rfl ?_
    have hno : ¬ (pEnd B n).1.1 = 0 := of_decide_eq_false c17
    rw [if_neg hno, if_neg hno, if_neg hno, if_neg hno] at h
    exact h M2 ⟨fun a q1 q2 q3 q4 => hF2 a (by omega) q3 q2, by rw [s2]; exact hF1.2⟩ hC2 hU2 hB2 (hZ1.cg (fun a q1 q2 => hE2 a (by omega))) (by rw [hE2 104 (by decide)]; exact hc2) (fun q => by rw [hE2 104 (by decide)]; exact hp2 q)
