/-! THE MODEL: ring, node, tenant -/
theorem zPm.st {M : zM} {n j : Nat} {B : Nat → Nat} {s : zS} {x : Int32} (h : zPm M n B s) : zPm (zU M.1 120 j x, M.2) n B s := h.cg (by dsimp only; rw [zU_off (by decide)]) (by dsimp only; rw [zU_off (by decide)])
theorem sTake_no {B : Nat → Nat} {n i : Nat} {s : zS} (h : s.1 ≠ 0) : sTake B n i s = s := by unfold sTake; rw [sErr_no h, sNext_no h]
theorem sNumE_no {B : Nat → Nat} {n lo hi : Nat} {s : zS} (h : s.1 ≠ 0) : sNumE B n lo hi s = s := by unfold sNumE; rw [sErr_no h, sErr_no h, ite_self]
theorem sNum_no {B : Nat → Nat} {n lo hi : Nat} {s : zS} (h : s.1 ≠ 0) : sNum B n lo hi s = s := by unfold sNum; rw [sNumE_no h, sNext_no h]
theorem sEnd_no {B : Nat → Nat} {n : Nat} {s : zS} (h : s.1 ≠ 0) : sEnd B n s = s := by unfold sEnd; rw [sErr_no h, sNext_no h]
theorem nd10_no {B : Nat → Nat} {n : Nat} {v : zV} {s : zS} (h : (nd1 B n v s).1 ≠ 0) : nd10 B n v s = nd1 B n v s := by
  have e2 : nd2 B n v s = nd1 B n v s := by unfold nd2 nd2e; rw [sErr_no h, sErr_no h, sNext_no h]
  have e3 : nd3 B n v s = nd1 B n v s := by unfold nd3; rw [e2, sTake_no h]
  have e4 : nd4 B n v s = nd1 B n v s := by unfold nd4 nd4e; rw [e3, sNumE_no h, sErr_no h, sNext_no h]
  have e5 : nd5 B n v s = nd1 B n v s := by unfold nd5; rw [e4, sTake_no h]
  have e6 : nd6 B n v s = nd1 B n v s := by unfold nd6; rw [e5, sNum_no h]
  have e7 : nd7 B n v s = nd1 B n v s := by unfold nd7; rw [e6, sTake_no h]
  have e8 : nd8 B n v s = nd1 B n v s := by unfold nd8; rw [e7, sNum_no h]
  have e9 : nd9 B n v s = nd1 B n v s := by unfold nd9; rw [e8, sTake_no h]
  unfold nd10
  rw [e9, sNum_no h]
theorem tn6_no {B : Nat → Nat} {n : Nat} {v : zV} {s : zS} (h : (tn1 B n v s).1 ≠ 0) : tn6 B n v s = tn1 B n v s := by
  have e2 : tn2 B n v s = tn1 B n v s := by unfold tn2 tn2e; rw [sErr_no h, sErr_no h, sNext_no h]
  have e3 : tn3 B n v s = tn1 B n v s := by unfold tn3; rw [e2, sTake_no h]
  have e4 : tn4 B n v s = tn1 B n v s := by unfold tn4; rw [e3, sNum_no h]
  have e5 : tn5 B n v s = tn1 B n v s := by unfold tn5; rw [e4, sTake_no h]
  unfold tn6
  rw [e5, sNum_no h]
theorem gp14_no {B : Nat → Nat} {n : Nat} {v : zV} {s : zS} (h : (gp1 B n v s).1 ≠ 0) : gp14 B n v s = gp1 B n v s := by
  have e2 : gp2 B n v s = gp1 B n v s := by unfold gp2 gp2e; rw [sErr_no h, sErr_no h, sNext_no h]
  have e3 : gp3 B n v s = gp1 B n v s := by unfold gp3; rw [e2, sTake_no h]
  have e4 : gp4 B n v s = gp1 B n v s := by unfold gp4 gp4e gp4c; rw [e3, sErr_no h, sErr_no h, sNext_no h]
  have e5 : gp5 B n v s = gp1 B n v s := by unfold gp5; rw [e4, sTake_no h]
  have e6 : gp6 B n v s = gp1 B n v s := by unfold gp6; rw [e5, sNum_no h]
  have e7 : gp7 B n v s = gp1 B n v s := by unfold gp7; rw [e6, sTake_no h]
  have e8 : gp8 B n v s = gp1 B n v s := by unfold gp8; rw [e7, sNum_no h]
  have e9 : gp9 B n v s = gp1 B n v s := by unfold gp9; rw [e8, sTake_no h]
  have e10 : gp10 B n v s = gp1 B n v s := by unfold gp10; rw [e9, sNum_no h]
  have e11 : gp11 B n v s = gp1 B n v s := by unfold gp11; rw [e10, sTake_no h]
  have e12 : gp12 B n v s = gp1 B n v s := by unfold gp12; rw [e11, sNum_no h]
  have e13 : gp13 B n v s = gp1 B n v s := by unfold gp13; rw [e12, sTake_no h]
  unfold gp14
  rw [e13, sNum_no h]
theorem taken_ag {v v' : zV} {p : Nat} (h : ∀ j, zAc v j → v' j = v j) : zAny (v' 6) (fun i => v' (10 + 12 * i + 0) == p) = zAny (v 6) (fun i => v (10 + 12 * i + 0) == p) := by
  rw [h 6 (Or.inl (by decide))]
  exact zAny_congr (fun i hi => by rw [h _ (Or.inr (Or.inl (by omega)))])
theorem jX10_parseNode {n : Nat} {B : Nat → Nat} {s : zS} {v : zV} {Q : Option Value → zM → Prop} {X : String → zM → Prop} {M : zM} (hP : zPm M n B s) (hA : zRA M 120 v) (hW : zWF v) (hN : zNmS v) (h : ∀ M' v', zHf M M' → zPm M' n B (nd10 B n v s) → zRA M' 120 v' → ((nd10 B n v s).1 = 0 → v' = vNode B n v s) → Q none M') : zJ yX10_parseNode cX10_parseNode 2 none rX10_parseNode Q X rX10_parseNode.cells rX10_parseNode.slots 0 (zEnt 2 [.ref 118]) [] M := by
  have h6 := hW.nN
  have h7 := hW.tN
  have h8 := hW.gN
  show zJ yX10_parseNode cX10_parseNode 2 none rX10_parseNode Q X 0 0 0 [some (.ref 118), none] [] M
  refine zj_aload0 (n := 1) rfl dX10_parseNode_0 ?_
  refine zj_aload0 (n := 2) rfl dX10_parseNode_1 ?_
  refine zj_getr (n := 5) (q := 120) rfl dX10_parseNode_2 zf_X10_24 rfl (by decide) (by decide) hA.now ?_
  refine zj_bipushN (v := 6) (n := 7) rfl dX10_parseNode_5 (by decide) ?_
  refine zj_ialoadN (e := v 6) (n := 8) rfl dX10_parseNode_7 (by decide) rfl (by rw [show zLen 120 = 698 from rfl]; omega) (hA.2.2 _ (by omega)) ?_
  refine zj_bipushN (v := 16) (n := 10) rfl dX10_parseNode_8 (by decide) ?_
  refine zj_icmpN_ge (n := 13) (tgt := 17) rfl dX10_parseNode_10 (by decide) (by omega) (by omega) (fun c10 => ?_) (fun c10 => ?_)
  · refine zj_iconstN_0 (n := 18) rfl dX10_parseNode_17 ?_
    rw [show nI 0 = zb (decide (v 6 < 16)) from by rw [decide_eq_false (by omega)]; rfl]
    refine zj_callV1 (n := 21) (a' := 0) (b' := 0) rfl dX10_parseNode_18 zm_X10_346 (by decide) (by decide) rfl (Nat.le_of_ble_eq_true rfl) (Nat.le_of_ble_eq_true rfl) (Nat.le_of_ble_eq_true rfl) (Nat.le_of_ble_eq_true rfl) (jX10_begins hP ?_)
    intro M1 hG1 hP1
    have hF1 : zHf M M1 := zHf.of hG1
    have hA1 := hA.gf hG1
    change zPm M1 n B (nd1 B n v s) at hP1
    refine zj_ifB_ne (n := 24) (tgt := 25) rfl dX10_parseNode_21 (by decide) (fun c21 => ?_) (fun c21 => ?_)
    · have hlt : v 6 < 16 := by have q := ((sErr_ok (by decide)).mp (sNext_ok.mp (of_decide_eq_true c21))).2; simpa using q
      refine zj_bipushN (v := 10) (n := 27) rfl dX10_parseNode_25 (by decide) ?_
      refine zj_bipushN (v := 12) (n := 29) rfl dX10_parseNode_27 (by decide) ?_
      refine zj_aload0 (n := 30) rfl dX10_parseNode_29 ?_
      refine zj_getr (n := 33) (q := 120) rfl dX10_parseNode_30 zf_X10_24 rfl (by decide) (by decide) hA1.now ?_
      refine zj_bipushN (v := 6) (n := 35) rfl dX10_parseNode_33 (by decide) ?_
      refine zj_ialoadN (e := v 6) (n := 36) rfl dX10_parseNode_35 (by decide) rfl (by rw [show zLen 120 = 698 from rfl]; omega) (hA1.2.2 _ (by omega)) ?_
      refine zj_imulN (n := 37) rfl dX10_parseNode_36 ?_
      refine zj_iaddN (n := 38) rfl dX10_parseNode_37 ?_
      refine zj_istore1 (n := 39) rfl dX10_parseNode_38 rfl (Nat.le_of_ble_eq_true rfl) ?_
      refine zj_aload0 (n := 40) rfl dX10_parseNode_39 ?_
      refine zj_iconstN_0 (n := 41) rfl dX10_parseNode_40 ?_
      refine zj_iload1 (n := 42) rfl dX10_parseNode_41 ?_
      refine zj_bipushN (v := 6) (n := 44) rfl dX10_parseNode_42 (by decide) ?_
      refine zj_iaddN (n := 45) rfl dX10_parseNode_44 ?_
      refine zj_callV2 (n := 48) (a' := 0) (b' := 0) rfl dX10_parseNode_45 zm_X10_349 (by decide) (by decide) rfl (Nat.le_of_ble_eq_true rfl) (Nat.le_of_ble_eq_true rfl) (Nat.le_of_ble_eq_true rfl) (Nat.le_of_ble_eq_true rfl) (jX10_newName hP1 hA1 hW hN (by decide) (by omega) ?_)
      intro M2 e2 he2 hG2 hP2 hA2
      have hF2 : zHf M M2 := hF1.tr hG2
      change zPm M2 n B (nd2 B n v s) at hP2
      refine zj_aload0 (n := 49) rfl dX10_parseNode_48 ?_
      refine zj_ldcwS (i := 9) (n := 52) rfl dX10_parseNode_49 rfl (by decide) rfl ?_
      refine zj_callV1 (n := 55) (a' := 0) (b' := 0) rfl dX10_parseNode_52 zm_X10_323 (by decide) (by decide) rfl (Nat.le_of_ble_eq_true rfl) (Nat.le_of_ble_eq_true rfl) (Nat.le_of_ble_eq_true rfl) (Nat.le_of_ble_eq_true rfl) (jX10_word hP2 (by decide) ?_)
      intro M3 hG3 hP3
      have hF3 : zHf M M3 := hF2.tr (zHf.of hG3)
      have hA3 := hA2.gf hG3
      change zPm M3 n B (nd3 B n v s) at hP3
      refine zj_aload0 (n := 56) rfl dX10_parseNode_55 ?_
      refine zj_getr (n := 59) (q := 120) rfl dX10_parseNode_56 zf_X10_24 rfl (by decide) (by decide) hA3.now ?_
      refine zj_iload1 (n := 60) rfl dX10_parseNode_59 ?_
      refine zj_iconstN_0 (n := 61) rfl dX10_parseNode_60 ?_
      refine zj_iaddN (n := 62) rfl dX10_parseNode_61 ?_
      refine zj_aload0 (n := 63) rfl dX10_parseNode_62 ?_
      refine zj_iconstN_0 (n := 64) rfl dX10_parseNode_63 ?_
      refine zj_sipushN (v := 9999) (n := 67) rfl dX10_parseNode_64 (by decide) ?_
      refine zj_callV2 (n := 70) (a' := 0) (b' := 0) rfl dX10_parseNode_67 zm_X10_327 (by decide) (by decide) rfl (Nat.le_of_ble_eq_true rfl) (Nat.le_of_ble_eq_true rfl) (Nat.le_of_ble_eq_true rfl) (Nat.le_of_ble_eq_true rfl) (jX10_numberHere hP3 (by decide) (by decide) ?_)
      intro M4 x4 hx4b hG4 hP4 hx4
      have hF4 : zHf M M4 := hF3.tr (zHf.of2 hG4)
      have hA4 := hA3.gf hG4
      refine zj_iastoreN (n := 71) rfl dX10_parseNode_70 (by decide) rfl (by rw [show zLen 120 = 698 from rfl]; omega) ?_
      refine zj_gen (P := fun M5 => zHf M M5 ∧ zPm M5 n B (sNumE B n 0 9999 (nd3 B n v s)) ∧ zRA M5 120 (vset (vlet v (10 + 12 * v 6 + 6) B (tS B n e2) (tE B n e2)) (10 + 12 * v 6 + 0) x4)) ⟨hF4.put, hP4.st, hA4.set⟩ ?_
      intro M5 h5
      obtain ⟨hF5, hP5, hA5⟩ := h5
      refine zj_aload0 (n := 72) rfl dX10_parseNode_71 ?_
      refine zj_callV0 (n := 75) (a' := 0) (b' := 0) rfl dX10_parseNode_72 zm_X10_226 (by decide) (by decide) rfl (Nat.le_of_ble_eq_true rfl) (Nat.le_of_ble_eq_true rfl) (Nat.le_of_ble_eq_true rfl) (Nat.le_of_ble_eq_true rfl) (jX10_good hP5 ?_)
      refine zj_ifB_eq (n := 78) (tgt := 98) rfl dX10_parseNode_75 (by decide) (fun c75 => ?_) (fun c75 => ?_)
      · refine zj_gen (P := fun M6 => zHf M M6 ∧ zPm M6 n B (nd4e B n v s) ∧ zRA M6 120 (vset (vlet v (10 + 12 * v 6 + 6) B (tS B n e2) (tE B n e2)) (10 + 12 * v 6 + 0) x4)) ⟨hF5, (by unfold nd4e; rw [sErr_no (of_decide_eq_false c75)]; exact hP5), hA5⟩ ?_
        intro M6 h6
        obtain ⟨hF6, hP6, hA6⟩ := h6
        refine zj_aload0 (n := 99) rfl dX10_parseNode_98 ?_
        refine zj_callV0 (n := 102) (a' := 0) (b' := 0) rfl dX10_parseNode_99 zm_X10_320 (by decide) (by decide) rfl (Nat.le_of_ble_eq_true rfl) (Nat.le_of_ble_eq_true rfl) (Nat.le_of_ble_eq_true rfl) (Nat.le_of_ble_eq_true rfl) (jX10_goOn hP6 ?_)
        intro M7 hG7 hP7
        have hF7 : zHf M M7 := hF6.tr (zHf.of hG7)
        have hA7 := hA6.gf hG7
        change zPm M7 n B (nd4 B n v s) at hP7
        refine zj_aload0 (n := 103) rfl dX10_parseNode_102 ?_
        refine zj_getr (n := 106) (q := 120) rfl dX10_parseNode_103 zf_X10_24 rfl (by decide) (by decide) hA7.now ?_
        refine zj_iload1 (n := 107) rfl dX10_parseNode_106 ?_
        refine zj_iconstN_1 (n := 108) rfl dX10_parseNode_107 ?_
        refine zj_iaddN (n := 109) rfl dX10_parseNode_108 ?_
        refine zj_aload0 (n := 110) rfl dX10_parseNode_109 ?_
        refine zj_ldcwS (i := 10) (n := 113) rfl dX10_parseNode_110 rfl (by decide) rfl ?_
        refine zj_iconstN_0 (n := 114) rfl dX10_parseNode_113 ?_
        refine zj_bipushN (v := 9) (n := 116) rfl dX10_parseNode_114 (by decide) ?_
        refine zj_callV3 (n := 119) (a' := 0) (b' := 0) rfl dX10_parseNode_116 zm_X10_355 (by decide) (by decide) rfl (Nat.le_of_ble_eq_true rfl) (Nat.le_of_ble_eq_true rfl) (Nat.le_of_ble_eq_true rfl) (Nat.le_of_ble_eq_true rfl) (jX10_numberAfter hP7 (by decide) (by decide) (by decide) ?_)
        intro M8 x8 hx8b hG8 hP8 hx8
        have hF8 : zHf M M8 := hF7.tr (zHf.of hG8)
        have hA8 := hA7.gf hG8
        change zPm M8 n B (nd6 B n v s) at hP8
        refine zj_iastoreN (n := 120) rfl dX10_parseNode_119 (by decide) rfl (by rw [show zLen 120 = 698 from rfl]; omega) ?_
        refine zj_gen (P := fun M9 => zHf M M9 ∧ zPm M9 n B (nd6 B n v s) ∧ zRA M9 120 (vset (vset (vlet v (10 + 12 * v 6 + 6) B (tS B n e2) (tE B n e2)) (10 + 12 * v 6 + 0) x4) (10 + 12 * v 6 + 1) x8)) ⟨hF8.put, hP8.st, hA8.set⟩ ?_
        intro M9 h9
        obtain ⟨hF9, hP9, hA9⟩ := h9
        refine zj_aload0 (n := 121) rfl dX10_parseNode_120 ?_
        refine zj_getr (n := 124) (q := 120) rfl dX10_parseNode_121 zf_X10_24 rfl (by decide) (by decide) hA9.now ?_
        refine zj_iload1 (n := 125) rfl dX10_parseNode_124 ?_
        refine zj_iconstN_2 (n := 126) rfl dX10_parseNode_125 ?_
        refine zj_iaddN (n := 127) rfl dX10_parseNode_126 ?_
        refine zj_aload0 (n := 128) rfl dX10_parseNode_127 ?_
        refine zj_ldcwS (i := 11) (n := 131) rfl dX10_parseNode_128 rfl (by decide) rfl ?_
        refine zj_iconstN_0 (n := 132) rfl dX10_parseNode_131 ?_
        refine zj_sipushN (v := 999) (n := 135) rfl dX10_parseNode_132 (by decide) ?_
        refine zj_callV3 (n := 138) (a' := 0) (b' := 0) rfl dX10_parseNode_135 zm_X10_355 (by decide) (by decide) rfl (Nat.le_of_ble_eq_true rfl) (Nat.le_of_ble_eq_true rfl) (Nat.le_of_ble_eq_true rfl) (Nat.le_of_ble_eq_true rfl) (jX10_numberAfter hP9 (by decide) (by decide) (by decide) ?_)
        intro M10 x10 hx10b hG10 hP10 hx10
        have hF10 : zHf M M10 := hF9.tr (zHf.of hG10)
        have hA10 := hA9.gf hG10
        change zPm M10 n B (nd8 B n v s) at hP10
        refine zj_iastoreN (n := 139) rfl dX10_parseNode_138 (by decide) rfl (by rw [show zLen 120 = 698 from rfl]; omega) ?_
        refine zj_gen (P := fun M11 => zHf M M11 ∧ zPm M11 n B (nd8 B n v s) ∧ zRA M11 120 (vset (vset (vset (vlet v (10 + 12 * v 6 + 6) B (tS B n e2) (tE B n e2)) (10 + 12 * v 6 + 0) x4) (10 + 12 * v 6 + 1) x8) (10 + 12 * v 6 + 2) x10)) ⟨hF10.put, hP10.st, hA10.set⟩ ?_
        intro M11 h11
        obtain ⟨hF11, hP11, hA11⟩ := h11
        refine zj_aload0 (n := 140) rfl dX10_parseNode_139 ?_
        refine zj_getr (n := 143) (q := 120) rfl dX10_parseNode_140 zf_X10_24 rfl (by decide) (by decide) hA11.now ?_
        refine zj_iload1 (n := 144) rfl dX10_parseNode_143 ?_
        refine zj_iconstN_3 (n := 145) rfl dX10_parseNode_144 ?_
        refine zj_iaddN (n := 146) rfl dX10_parseNode_145 ?_
        refine zj_aload0 (n := 147) rfl dX10_parseNode_146 ?_
        refine zj_ldcwS (i := 12) (n := 150) rfl dX10_parseNode_147 rfl (by decide) rfl ?_
        refine zj_iconstN_1 (n := 151) rfl dX10_parseNode_150 ?_
        refine zj_bipushN (v := 50) (n := 153) rfl dX10_parseNode_151 (by decide) ?_
        refine zj_callV3 (n := 156) (a' := 0) (b' := 0) rfl dX10_parseNode_153 zm_X10_355 (by decide) (by decide) rfl (Nat.le_of_ble_eq_true rfl) (Nat.le_of_ble_eq_true rfl) (Nat.le_of_ble_eq_true rfl) (Nat.le_of_ble_eq_true rfl) (jX10_numberAfter hP11 (by decide) (by decide) (by decide) ?_)
        intro M12 x12 hx12b hG12 hP12 hx12
        have hF12 : zHf M M12 := hF11.tr (zHf.of hG12)
        have hA12 := hA11.gf hG12
        change zPm M12 n B (nd10 B n v s) at hP12
        refine zj_iastoreN (n := 157) rfl dX10_parseNode_156 (by decide) rfl (by rw [show zLen 120 = 698 from rfl]; omega) ?_
        refine zj_gen (P := fun M13 => zHf M M13 ∧ zPm M13 n B (nd10 B n v s) ∧ zRA M13 120 (vset (vset (vset (vset (vlet v (10 + 12 * v 6 + 6) B (tS B n e2) (tE B n e2)) (10 + 12 * v 6 + 0) x4) (10 + 12 * v 6 + 1) x8) (10 + 12 * v 6 + 2) x10) (10 + 12 * v 6 + 3) x12)) ⟨hF12.put, hP12.st, hA12.set⟩ ?_
        intro M13 h13
        obtain ⟨hF13, hP13, hA13⟩ := h13
        refine zj_aload0 (n := 158) rfl dX10_parseNode_157 ?_
        refine zj_getr (n := 161) (q := 120) rfl dX10_parseNode_158 zf_X10_24 rfl (by decide) (by decide) hA13.now ?_
        refine zj_bipushN (v := 6) (n := 163) rfl dX10_parseNode_161 (by decide) ?_
        refine zj_dup2 (n := 164) rfl dX10_parseNode_163 ?_
        refine zj_ialoadN (e := v 6) (n := 165) rfl dX10_parseNode_164 (by decide) rfl (by rw [show zLen 120 = 698 from rfl]; omega) (by rw [hA13.2.2 6 (by decide), vset_off (by omega), vset_off (by omega), vset_off (by omega), vset_off (by omega), vlet_off (by omega)]) ?_
        refine zj_iconstN_1 (n := 166) rfl dX10_parseNode_165 ?_
        refine zj_iaddN (n := 167) rfl dX10_parseNode_166 ?_
        refine zj_iastoreN (n := 168) rfl dX10_parseNode_167 (by decide) rfl (by rw [show zLen 120 = 698 from rfl]; omega) ?_
        refine zj_return dX10_parseNode_168 rfl ?_
        refine h _ _ hF13.put hP13.st hA13.set (fun q => ?_)
        have q9 := (sNum_ok q).1
        have q8 := (sTake_ok q9).1
        have q7 := (sNum_ok q8).1
        have q6 := (sTake_ok q7).1
        have q5 := (sNum_ok q6).1
        have q4 := (sTake_ok q5).1
        have q4n := ((sErr_ok (by decide)).mp (sNext_ok.mp q4)).1
        have q3 := (sNumE_ok q4n).1
        have q2 := sNext_ok.mp (sTake_ok q3).1
        have r2 := he2 q2
        have r4 := hx4 q4n
        have r8 := hx8 q6
        have r10 := hx10 q8
        have r12 := hx12 q
        subst r2
        unfold vNode
        rw [r4, r8, r10, r12]
        rfl
      · refine zj_aload0 (n := 79) rfl dX10_parseNode_78 ?_
        refine zj_aload0 (n := 80) rfl dX10_parseNode_79 ?_
        refine zj_getr (n := 83) (q := 120) rfl dX10_parseNode_80 zf_X10_24 rfl (by decide) (by decide) hA5.now ?_
        refine zj_iload1 (n := 84) rfl dX10_parseNode_83 ?_
        refine zj_iconstN_0 (n := 85) rfl dX10_parseNode_84 ?_
        refine zj_iaddN (n := 86) rfl dX10_parseNode_85 ?_
        refine zj_ialoadN (e := x4) (n := 87) rfl dX10_parseNode_86 (by decide) rfl (by rw [show zLen 120 = 698 from rfl]; omega) (by rw [hA5.2.2 _ (by omega), vset_at]) ?_
        refine zj_callV1 (n := 90) (a' := 0) (b' := 0) rfl dX10_parseNode_87 zm_X10_352 (by decide) (by decide) rfl (Nat.le_of_ble_eq_true rfl) (Nat.le_of_ble_eq_true rfl) (Nat.le_of_ble_eq_true rfl) (Nat.le_of_ble_eq_true rfl) (jX10_isTakenPosition hA5 (hW.ag (fun j hj => by unfold zAc at hj; rw [vset_off (by omega), vlet_off (by omega)])) (by omega) ?_)
        rw [taken_ag (v := v) (fun j hj => by unfold zAc at hj; rw [vset_off (by omega), vlet_off (by omega)])]
        refine zj_ifB_eq (n := 93) (tgt := 98) rfl dX10_parseNode_90 (by decide) (fun c90 => ?_) (fun c90 => ?_)
        · refine zj_gen (P := fun M6 => zHf M M6 ∧ zPm M6 n B (nd4e B n v s) ∧ zRA M6 120 (vset (vlet v (10 + 12 * v 6 + 6) B (tS B n e2) (tE B n e2)) (10 + 12 * v 6 + 0) x4)) ⟨hF5, (by unfold nd4e; rw [← hx4 (of_decide_eq_true c75), c90]; exact hP5), hA5⟩ ?_
          intro M6 h6
          obtain ⟨hF6, hP6, hA6⟩ := h6
          refine zj_aload0 (n := 99) rfl dX10_parseNode_98 ?_
          refine zj_callV0 (n := 102) (a' := 0) (b' := 0) rfl dX10_parseNode_99 zm_X10_320 (by decide) (by decide) rfl (Nat.le_of_ble_eq_true rfl) (Nat.le_of_ble_eq_true rfl) (Nat.le_of_ble_eq_true rfl) (Nat.le_of_ble_eq_true rfl) (jX10_goOn hP6 ?_)
          intro M7 hG7 hP7
          have hF7 : zHf M M7 := hF6.tr (zHf.of hG7)
          have hA7 := hA6.gf hG7
          change zPm M7 n B (nd4 B n v s) at hP7
          refine zj_aload0 (n := 103) rfl dX10_parseNode_102 ?_
          refine zj_getr (n := 106) (q := 120) rfl dX10_parseNode_103 zf_X10_24 rfl (by decide) (by decide) hA7.now ?_
          refine zj_iload1 (n := 107) rfl dX10_parseNode_106 ?_
          refine zj_iconstN_1 (n := 108) rfl dX10_parseNode_107 ?_
          refine zj_iaddN (n := 109) rfl dX10_parseNode_108 ?_
          refine zj_aload0 (n := 110) rfl dX10_parseNode_109 ?_
          refine zj_ldcwS (i := 10) (n := 113) rfl dX10_parseNode_110 rfl (by decide) rfl ?_
          refine zj_iconstN_0 (n := 114) rfl dX10_parseNode_113 ?_
          refine zj_bipushN (v := 9) (n := 116) rfl dX10_parseNode_114 (by decide) ?_
          refine zj_callV3 (n := 119) (a' := 0) (b' := 0) rfl dX10_parseNode_116 zm_X10_355 (by decide) (by decide) rfl (Nat.le_of_ble_eq_true rfl) (Nat.le_of_ble_eq_true rfl) (Nat.le_of_ble_eq_true rfl) (Nat.le_of_ble_eq_true rfl) (jX10_numberAfter hP7 (by decide) (by decide) (by decide) ?_)
          intro M8 x8 hx8b hG8 hP8 hx8
          have hF8 : zHf M M8 := hF7.tr (zHf.of hG8)
          have hA8 := hA7.gf hG8
          change zPm M8 n B (nd6 B n v s) at hP8
          refine zj_iastoreN (n := 120) rfl dX10_parseNode_119 (by decide) rfl (by rw [show zLen 120 = 698 from rfl]; omega) ?_
          refine zj_gen (P := fun M9 => zHf M M9 ∧ zPm M9 n B (nd6 B n v s) ∧ zRA M9 120 (vset (vset (vlet v (10 + 12 * v 6 + 6) B (tS B n e2) (tE B n e2)) (10 + 12 * v 6 + 0) x4) (10 + 12 * v 6 + 1) x8)) ⟨hF8.put, hP8.st, hA8.set⟩ ?_
          intro M9 h9
          obtain ⟨hF9, hP9, hA9⟩ := h9
          refine zj_aload0 (n := 121) rfl dX10_parseNode_120 ?_
          refine zj_getr (n := 124) (q := 120) rfl dX10_parseNode_121 zf_X10_24 rfl (by decide) (by decide) hA9.now ?_
          refine zj_iload1 (n := 125) rfl dX10_parseNode_124 ?_
          refine zj_iconstN_2 (n := 126) rfl dX10_parseNode_125 ?_
          refine zj_iaddN (n := 127) rfl dX10_parseNode_126 ?_
          refine zj_aload0 (n := 128) rfl dX10_parseNode_127 ?_
          refine zj_ldcwS (i := 11) (n := 131) rfl dX10_parseNode_128 rfl (by decide) rfl ?_
          refine zj_iconstN_0 (n := 132) rfl dX10_parseNode_131 ?_
          refine zj_sipushN (v := 999) (n := 135) rfl dX10_parseNode_132 (by decide) ?_
          refine zj_callV3 (n := 138) (a' := 0) (b' := 0) rfl dX10_parseNode_135 zm_X10_355 (by decide) (by decide) rfl (Nat.le_of_ble_eq_true rfl) (Nat.le_of_ble_eq_true rfl) (Nat.le_of_ble_eq_true rfl) (Nat.le_of_ble_eq_true rfl) (jX10_numberAfter hP9 (by decide) (by decide) (by decide) ?_)
          intro M10 x10 hx10b hG10 hP10 hx10
          have hF10 : zHf M M10 := hF9.tr (zHf.of hG10)
          have hA10 := hA9.gf hG10
          change zPm M10 n B (nd8 B n v s) at hP10
          refine zj_iastoreN (n := 139) rfl dX10_parseNode_138 (by decide) rfl (by rw [show zLen 120 = 698 from rfl]; omega) ?_
          refine zj_gen (P := fun M11 => zHf M M11 ∧ zPm M11 n B (nd8 B n v s) ∧ zRA M11 120 (vset (vset (vset (vlet v (10 + 12 * v 6 + 6) B (tS B n e2) (tE B n e2)) (10 + 12 * v 6 + 0) x4) (10 + 12 * v 6 + 1) x8) (10 + 12 * v 6 + 2) x10)) ⟨hF10.put, hP10.st, hA10.set⟩ ?_
          intro M11 h11
          obtain ⟨hF11, hP11, hA11⟩ := h11
          refine zj_aload0 (n := 140) rfl dX10_parseNode_139 ?_
          refine zj_getr (n := 143) (q := 120) rfl dX10_parseNode_140 zf_X10_24 rfl (by decide) (by decide) hA11.now ?_
          refine zj_iload1 (n := 144) rfl dX10_parseNode_143 ?_
          refine zj_iconstN_3 (n := 145) rfl dX10_parseNode_144 ?_
          refine zj_iaddN (n := 146) rfl dX10_parseNode_145 ?_
          refine zj_aload0 (n := 147) rfl dX10_parseNode_146 ?_
          refine zj_ldcwS (i := 12) (n := 150) rfl dX10_parseNode_147 rfl (by decide) rfl ?_
          refine zj_iconstN_1 (n := 151) rfl dX10_parseNode_150 ?_
          refine zj_bipushN (v := 50) (n := 153) rfl dX10_parseNode_151 (by decide) ?_
          refine zj_callV3 (n := 156) (a' := 0) (b' := 0) rfl dX10_parseNode_153 zm_X10_355 (by decide) (by decide) rfl (Nat.le_of_ble_eq_true rfl) (Nat.le_of_ble_eq_true rfl) (Nat.le_of_ble_eq_true rfl) (Nat.le_of_ble_eq_true rfl) (jX10_numberAfter hP11 (by decide) (by decide) (by decide) ?_)
          intro M12 x12 hx12b hG12 hP12 hx12
          have hF12 : zHf M M12 := hF11.tr (zHf.of hG12)
          have hA12 := hA11.gf hG12
          change zPm M12 n B (nd10 B n v s) at hP12
          refine zj_iastoreN (n := 157) rfl dX10_parseNode_156 (by decide) rfl (by rw [show zLen 120 = 698 from rfl]; omega) ?_
          refine zj_gen (P := fun M13 => zHf M M13 ∧ zPm M13 n B (nd10 B n v s) ∧ zRA M13 120 (vset (vset (vset (vset (vlet v (10 + 12 * v 6 + 6) B (tS B n e2) (tE B n e2)) (10 + 12 * v 6 + 0) x4) (10 + 12 * v 6 + 1) x8) (10 + 12 * v 6 + 2) x10) (10 + 12 * v 6 + 3) x12)) ⟨hF12.put, hP12.st, hA12.set⟩ ?_
          intro M13 h13
          obtain ⟨hF13, hP13, hA13⟩ := h13
          refine zj_aload0 (n := 158) rfl dX10_parseNode_157 ?_
          refine zj_getr (n := 161) (q := 120) rfl dX10_parseNode_158 zf_X10_24 rfl (by decide) (by decide) hA13.now ?_
          refine zj_bipushN (v := 6) (n := 163) rfl dX10_parseNode_161 (by decide) ?_
          refine zj_dup2 (n := 164) rfl dX10_parseNode_163 ?_
          refine zj_ialoadN (e := v 6) (n := 165) rfl dX10_parseNode_164 (by decide) rfl (by rw [show zLen 120 = 698 from rfl]; omega) (by rw [hA13.2.2 6 (by decide), vset_off (by omega), vset_off (by omega), vset_off (by omega), vset_off (by omega), vlet_off (by omega)]) ?_
          refine zj_iconstN_1 (n := 166) rfl dX10_parseNode_165 ?_
          refine zj_iaddN (n := 167) rfl dX10_parseNode_166 ?_
          refine zj_iastoreN (n := 168) rfl dX10_parseNode_167 (by decide) rfl (by rw [show zLen 120 = 698 from rfl]; omega) ?_
          refine zj_return dX10_parseNode_168 rfl ?_
          refine h _ _ hF13.put hP13.st hA13.set (fun q => ?_)
          have q9 := (sNum_ok q).1
          have q8 := (sTake_ok q9).1
          have q7 := (sNum_ok q8).1
          have q6 := (sTake_ok q7).1
          have q5 := (sNum_ok q6).1
          have q4 := (sTake_ok q5).1
          have q4n := ((sErr_ok (by decide)).mp (sNext_ok.mp q4)).1
          have q3 := (sNumE_ok q4n).1
          have q2 := sNext_ok.mp (sTake_ok q3).1
          have r2 := he2 q2
          have r4 := hx4 q4n
          have r8 := hx8 q6
          have r10 := hx10 q8
          have r12 := hx12 q
          subst r2
          unfold vNode
          rw [r4, r8, r10, r12]
          rfl
        · refine zj_aload0 (n := 94) rfl dX10_parseNode_93 ?_
          refine zj_iconstN_3 (n := 95) rfl dX10_parseNode_94 ?_
          refine zj_callV1 (n := 98) (a' := 0) (b' := 0) rfl dX10_parseNode_95 zm_X10_317 (by decide) (by decide) rfl (Nat.le_of_ble_eq_true rfl) (Nat.le_of_ble_eq_true rfl) (Nat.le_of_ble_eq_true rfl) (Nat.le_of_ble_eq_true rfl) (jX10_errs hP5 (by decide) ?_)
          intro M9 hG9 hP9
          refine zj_gen (P := fun M6 => zHf M M6 ∧ zPm M6 n B (nd4e B n v s) ∧ zRA M6 120 (vset (vlet v (10 + 12 * v 6 + 6) B (tS B n e2) (tE B n e2)) (10 + 12 * v 6 + 0) x4)) ⟨(hF5.tr (zHf.of2 hG9)), (by unfold nd4e; rw [← hx4 (of_decide_eq_true c75), c90]; exact hP9), (hA5.gf hG9)⟩ ?_
          intro M6 h6
          obtain ⟨hF6, hP6, hA6⟩ := h6
          refine zj_aload0 (n := 99) rfl dX10_parseNode_98 ?_
          refine zj_callV0 (n := 102) (a' := 0) (b' := 0) rfl dX10_parseNode_99 zm_X10_320 (by decide) (by decide) rfl (Nat.le_of_ble_eq_true rfl) (Nat.le_of_ble_eq_true rfl) (Nat.le_of_ble_eq_true rfl) (Nat.le_of_ble_eq_true rfl) (jX10_goOn hP6 ?_)
          intro M7 hG7 hP7
          have hF7 : zHf M M7 := hF6.tr (zHf.of hG7)
          have hA7 := hA6.gf hG7
          change zPm M7 n B (nd4 B n v s) at hP7
          refine zj_aload0 (n := 103) rfl dX10_parseNode_102 ?_
          refine zj_getr (n := 106) (q := 120) rfl dX10_parseNode_103 zf_X10_24 rfl (by decide) (by decide) hA7.now ?_
          refine zj_iload1 (n := 107) rfl dX10_parseNode_106 ?_
          refine zj_iconstN_1 (n := 108) rfl dX10_parseNode_107 ?_
          refine zj_iaddN (n := 109) rfl dX10_parseNode_108 ?_
          refine zj_aload0 (n := 110) rfl dX10_parseNode_109 ?_
          refine zj_ldcwS (i := 10) (n := 113) rfl dX10_parseNode_110 rfl (by decide) rfl ?_
          refine zj_iconstN_0 (n := 114) rfl dX10_parseNode_113 ?_
          refine zj_bipushN (v := 9) (n := 116) rfl dX10_parseNode_114 (by decide) ?_
          refine zj_callV3 (n := 119) (a' := 0) (b' := 0) rfl dX10_parseNode_116 zm_X10_355 (by decide) (by decide) rfl (Nat.le_of_ble_eq_true rfl) (Nat.le_of_ble_eq_true rfl) (Nat.le_of_ble_eq_true rfl) (Nat.le_of_ble_eq_true rfl) (jX10_numberAfter hP7 (by decide) (by decide) (by decide) ?_)
          intro M8 x8 hx8b hG8 hP8 hx8
          have hF8 : zHf M M8 := hF7.tr (zHf.of hG8)
          have hA8 := hA7.gf hG8
          change zPm M8 n B (nd6 B n v s) at hP8
          refine zj_iastoreN (n := 120) rfl dX10_parseNode_119 (by decide) rfl (by rw [show zLen 120 = 698 from rfl]; omega) ?_
          refine zj_gen (P := fun M9 => zHf M M9 ∧ zPm M9 n B (nd6 B n v s) ∧ zRA M9 120 (vset (vset (vlet v (10 + 12 * v 6 + 6) B (tS B n e2) (tE B n e2)) (10 + 12 * v 6 + 0) x4) (10 + 12 * v 6 + 1) x8)) ⟨hF8.put, hP8.st, hA8.set⟩ ?_
          intro M9 h9
          obtain ⟨hF9, hP9, hA9⟩ := h9
          refine zj_aload0 (n := 121) rfl dX10_parseNode_120 ?_
          refine zj_getr (n := 124) (q := 120) rfl dX10_parseNode_121 zf_X10_24 rfl (by decide) (by decide) hA9.now ?_
          refine zj_iload1 (n := 125) rfl dX10_parseNode_124 ?_
          refine zj_iconstN_2 (n := 126) rfl dX10_parseNode_125 ?_
          refine zj_iaddN (n := 127) rfl dX10_parseNode_126 ?_
          refine zj_aload0 (n := 128) rfl dX10_parseNode_127 ?_
          refine zj_ldcwS (i := 11) (n := 131) rfl dX10_parseNode_128 rfl (by decide) rfl ?_
          refine zj_iconstN_0 (n := 132) rfl dX10_parseNode_131 ?_
          refine zj_sipushN (v := 999) (n := 135) rfl dX10_parseNode_132 (by decide) ?_
          refine zj_callV3 (n := 138) (a' := 0) (b' := 0) rfl dX10_parseNode_135 zm_X10_355 (by decide) (by decide) rfl (Nat.le_of_ble_eq_true rfl) (Nat.le_of_ble_eq_true rfl) (Nat.le_of_ble_eq_true rfl) (Nat.le_of_ble_eq_true rfl) (jX10_numberAfter hP9 (by decide) (by decide) (by decide) ?_)
          intro M10 x10 hx10b hG10 hP10 hx10
          have hF10 : zHf M M10 := hF9.tr (zHf.of hG10)
          have hA10 := hA9.gf hG10
          change zPm M10 n B (nd8 B n v s) at hP10
          refine zj_iastoreN (n := 139) rfl dX10_parseNode_138 (by decide) rfl (by rw [show zLen 120 = 698 from rfl]; omega) ?_
          refine zj_gen (P := fun M11 => zHf M M11 ∧ zPm M11 n B (nd8 B n v s) ∧ zRA M11 120 (vset (vset (vset (vlet v (10 + 12 * v 6 + 6) B (tS B n e2) (tE B n e2)) (10 + 12 * v 6 + 0) x4) (10 + 12 * v 6 + 1) x8) (10 + 12 * v 6 + 2) x10)) ⟨hF10.put, hP10.st, hA10.set⟩ ?_
          intro M11 h11
          obtain ⟨hF11, hP11, hA11⟩ := h11
          refine zj_aload0 (n := 140) rfl dX10_parseNode_139 ?_
          refine zj_getr (n := 143) (q := 120) rfl dX10_parseNode_140 zf_X10_24 rfl (by decide) (by decide) hA11.now ?_
          refine zj_iload1 (n := 144) rfl dX10_parseNode_143 ?_
          refine zj_iconstN_3 (n := 145) rfl dX10_parseNode_144 ?_
          refine zj_iaddN (n := 146) rfl dX10_parseNode_145 ?_
          refine zj_aload0 (n := 147) rfl dX10_parseNode_146 ?_
          refine zj_ldcwS (i := 12) (n := 150) rfl dX10_parseNode_147 rfl (by decide) rfl ?_
          refine zj_iconstN_1 (n := 151) rfl dX10_parseNode_150 ?_
          refine zj_bipushN (v := 50) (n := 153) rfl dX10_parseNode_151 (by decide) ?_
          refine zj_callV3 (n := 156) (a' := 0) (b' := 0) rfl dX10_parseNode_153 zm_X10_355 (by decide) (by decide) rfl (Nat.le_of_ble_eq_true rfl) (Nat.le_of_ble_eq_true rfl) (Nat.le_of_ble_eq_true rfl) (Nat.le_of_ble_eq_true rfl) (jX10_numberAfter hP11 (by decide) (by decide) (by decide) ?_)
          intro M12 x12 hx12b hG12 hP12 hx12
          have hF12 : zHf M M12 := hF11.tr (zHf.of hG12)
          have hA12 := hA11.gf hG12
          change zPm M12 n B (nd10 B n v s) at hP12
          refine zj_iastoreN (n := 157) rfl dX10_parseNode_156 (by decide) rfl (by rw [show zLen 120 = 698 from rfl]; omega) ?_
          refine zj_gen (P := fun M13 => zHf M M13 ∧ zPm M13 n B (nd10 B n v s) ∧ zRA M13 120 (vset (vset (vset (vset (vlet v (10 + 12 * v 6 + 6) B (tS B n e2) (tE B n e2)) (10 + 12 * v 6 + 0) x4) (10 + 12 * v 6 + 1) x8) (10 + 12 * v 6 + 2) x10) (10 + 12 * v 6 + 3) x12)) ⟨hF12.put, hP12.st, hA12.set⟩ ?_
          intro M13 h13
          obtain ⟨hF13, hP13, hA13⟩ := h13
          refine zj_aload0 (n := 158) rfl dX10_parseNode_157 ?_
          refine zj_getr (n := 161) (q := 120) rfl dX10_parseNode_158 zf_X10_24 rfl (by decide) (by decide) hA13.now ?_
          refine zj_bipushN (v := 6) (n := 163) rfl dX10_parseNode_161 (by decide) ?_
          refine zj_dup2 (n := 164) rfl dX10_parseNode_163 ?_
          refine zj_ialoadN (e := v 6) (n := 165) rfl dX10_parseNode_164 (by decide) rfl (by rw [show zLen 120 = 698 from rfl]; omega) (by rw [hA13.2.2 6 (by decide), vset_off (by omega), vset_off (by omega), vset_off (by omega), vset_off (by omega), vlet_off (by omega)]) ?_
          refine zj_iconstN_1 (n := 166) rfl dX10_parseNode_165 ?_
          refine zj_iaddN (n := 167) rfl dX10_parseNode_166 ?_
          refine zj_iastoreN (n := 168) rfl dX10_parseNode_167 (by decide) rfl (by rw [show zLen 120 = 698 from rfl]; omega) ?_
          refine zj_return dX10_parseNode_168 rfl ?_
          refine h _ _ hF13.put hP13.st hA13.set (fun q => ?_)
          have q9 := (sNum_ok q).1
          have q8 := (sTake_ok q9).1
          have q7 := (sNum_ok q8).1
          have q6 := (sTake_ok q7).1
          have q5 := (sNum_ok q6).1
          have q4 := (sTake_ok q5).1
          have q4n := ((sErr_ok (by decide)).mp (sNext_ok.mp q4)).1
          have q3 := (sNumE_ok q4n).1
          have q2 := sNext_ok.mp (sTake_ok q3).1
          have r2 := he2 q2
          have r4 := hx4 q4n
          have r8 := hx8 q6
          have r10 := hx10 q8
          have r12 := hx12 q
          subst r2
          unfold vNode
          rw [r4, r8, r10, r12]
          rfl
    · refine zj_return dX10_parseNode_24 rfl ?_
      have q1 := of_decide_eq_false c21
      have q10 := nd10_no (B := B) (n := n) (v := v) (s := s) q1
      exact h M1 v hF1 (by rw [q10]; exact hP1) hA1 (fun q => absurd (by rw [q10] at q; exact q) q1)
  · refine zj_iconstN_1 (n := 14) rfl dX10_parseNode_13 ?_
    refine zj_goto (tgt := 18) dX10_parseNode_14 (by decide) ?_
    rw [show nI 1 = zb (decide (v 6 < 16)) from by rw [decide_eq_true (by omega)]; rfl]
    refine zj_callV1 (n := 21) (a' := 0) (b' := 0) rfl dX10_parseNode_18 zm_X10_346 (by decide) (by decide) rfl (Nat.le_of_ble_eq_true rfl) (Nat.le_of_ble_eq_true rfl) (Nat.le_of_ble_eq_true rfl) (Nat.le_of_ble_eq_true rfl) (jX10_begins hP ?_)
    intro M1 hG1 hP1
    have hF1 : zHf M M1 := zHf.of hG1
    have hA1 := hA.gf hG1
    change zPm M1 n B (nd1 B n v s) at hP1
    refine zj_ifB_ne (n := 24) (tgt := 25) rfl dX10_parseNode_21 (by decide) (fun c21 => ?_) (fun c21 => ?_)
    · have hlt : v 6 < 16 := by have q := ((sErr_ok (by decide)).mp (sNext_ok.mp (of_decide_eq_true c21))).2; simpa using q
      refine zj_bipushN (v := 10) (n := 27) rfl dX10_parseNode_25 (by decide) ?_
      refine zj_bipushN (v := 12) (n := 29) rfl dX10_parseNode_27 (by decide) ?_
      refine zj_aload0 (n := 30) rfl dX10_parseNode_29 ?_
      refine zj_getr (n := 33) (q := 120) rfl dX10_parseNode_30 zf_X10_24 rfl (by decide) (by decide) hA1.now ?_
      refine zj_bipushN (v := 6) (n := 35) rfl dX10_parseNode_33 (by decide) ?_
      refine zj_ialoadN (e := v 6) (n := 36) rfl dX10_parseNode_35 (by decide) rfl (by rw [show zLen 120 = 698 from rfl]; omega) (hA1.2.2 _ (by omega)) ?_
      refine zj_imulN (n := 37) rfl dX10_parseNode_36 ?_
      refine zj_iaddN (n := 38) rfl dX10_parseNode_37 ?_
      refine zj_istore1 (n := 39) rfl dX10_parseNode_38 rfl (Nat.le_of_ble_eq_true rfl) ?_
      refine zj_aload0 (n := 40) rfl dX10_parseNode_39 ?_
      refine zj_iconstN_0 (n := 41) rfl dX10_parseNode_40 ?_
      refine zj_iload1 (n := 42) rfl dX10_parseNode_41 ?_
      refine zj_bipushN (v := 6) (n := 44) rfl dX10_parseNode_42 (by decide) ?_
      refine zj_iaddN (n := 45) rfl dX10_parseNode_44 ?_
      refine zj_callV2 (n := 48) (a' := 0) (b' := 0) rfl dX10_parseNode_45 zm_X10_349 (by decide) (by decide) rfl (Nat.le_of_ble_eq_true rfl) (Nat.le_of_ble_eq_true rfl) (Nat.le_of_ble_eq_true rfl) (Nat.le_of_ble_eq_true rfl) (jX10_newName hP1 hA1 hW hN (by decide) (by omega) ?_)
      intro M2 e2 he2 hG2 hP2 hA2
      have hF2 : zHf M M2 := hF1.tr hG2
      change zPm M2 n B (nd2 B n v s) at hP2
      refine zj_aload0 (n := 49) rfl dX10_parseNode_48 ?_
      refine zj_ldcwS (i := 9) (n := 52) rfl dX10_parseNode_49 rfl (by decide) rfl ?_
      refine zj_callV1 (n := 55) (a' := 0) (b' := 0) rfl dX10_parseNode_52 zm_X10_323 (by decide) (by decide) rfl (Nat.le_of_ble_eq_true rfl) (Nat.le_of_ble_eq_true rfl) (Nat.le_of_ble_eq_true rfl) (Nat.le_of_ble_eq_true rfl) (jX10_word hP2 (by decide) ?_)
      intro M3 hG3 hP3
      have hF3 : zHf M M3 := hF2.tr (zHf.of hG3)
      have hA3 := hA2.gf hG3
      change zPm M3 n B (nd3 B n v s) at hP3
      refine zj_aload0 (n := 56) rfl dX10_parseNode_55 ?_
      refine zj_getr (n := 59) (q := 120) rfl dX10_parseNode_56 zf_X10_24 rfl (by decide) (by decide) hA3.now ?_
      refine zj_iload1 (n := 60) rfl dX10_parseNode_59 ?_
      refine zj_iconstN_0 (n := 61) rfl dX10_parseNode_60 ?_
      refine zj_iaddN (n := 62) rfl dX10_parseNode_61 ?_
      refine zj_aload0 (n := 63) rfl dX10_parseNode_62 ?_
      refine zj_iconstN_0 (n := 64) rfl dX10_parseNode_63 ?_
      refine zj_sipushN (v := 9999) (n := 67) rfl dX10_parseNode_64 (by decide) ?_
      refine zj_callV2 (n := 70) (a' := 0) (b' := 0) rfl dX10_parseNode_67 zm_X10_327 (by decide) (by decide) rfl (Nat.le_of_ble_eq_true rfl) (Nat.le_of_ble_eq_true rfl) (Nat.le_of_ble_eq_true rfl) (Nat.le_of_ble_eq_true rfl) (jX10_numberHere hP3 (by decide) (by decide) ?_)
      intro M4 x4 hx4b hG4 hP4 hx4
      have hF4 : zHf M M4 := hF3.tr (zHf.of2 hG4)
      have hA4 := hA3.gf hG4
      refine zj_iastoreN (n := 71) rfl dX10_parseNode_70 (by decide) rfl (by rw [show zLen 120 = 698 from rfl]; omega) ?_
      refine zj_gen (P := fun M5 => zHf M M5 ∧ zPm M5 n B (sNumE B n 0 9999 (nd3 B n v s)) ∧ zRA M5 120 (vset (vlet v (10 + 12 * v 6 + 6) B (tS B n e2) (tE B n e2)) (10 + 12 * v 6 + 0) x4)) ⟨hF4.put, hP4.st, hA4.set⟩ ?_
      intro M5 h5
      obtain ⟨hF5, hP5, hA5⟩ := h5
      refine zj_aload0 (n := 72) rfl dX10_parseNode_71 ?_
      refine zj_callV0 (n := 75) (a' := 0) (b' := 0) rfl dX10_parseNode_72 zm_X10_226 (by decide) (by decide) rfl (Nat.le_of_ble_eq_true rfl) (Nat.le_of_ble_eq_true rfl) (Nat.le_of_ble_eq_true rfl) (Nat.le_of_ble_eq_true rfl) (jX10_good hP5 ?_)
      refine zj_ifB_eq (n := 78) (tgt := 98) rfl dX10_parseNode_75 (by decide) (fun c75 => ?_) (fun c75 => ?_)
      · refine zj_gen (P := fun M6 => zHf M M6 ∧ zPm M6 n B (nd4e B n v s) ∧ zRA M6 120 (vset (vlet v (10 + 12 * v 6 + 6) B (tS B n e2) (tE B n e2)) (10 + 12 * v 6 + 0) x4)) ⟨hF5, (by unfold nd4e; rw [sErr_no (of_decide_eq_false c75)]; exact hP5), hA5⟩ ?_
        intro M6 h6
        obtain ⟨hF6, hP6, hA6⟩ := h6
        refine zj_aload0 (n := 99) rfl dX10_parseNode_98 ?_
        refine zj_callV0 (n := 102) (a' := 0) (b' := 0) rfl dX10_parseNode_99 zm_X10_320 (by decide) (by decide) rfl (Nat.le_of_ble_eq_true rfl) (Nat.le_of_ble_eq_true rfl) (Nat.le_of_ble_eq_true rfl) (Nat.le_of_ble_eq_true rfl) (jX10_goOn hP6 ?_)
        intro M7 hG7 hP7
        have hF7 : zHf M M7 := hF6.tr (zHf.of hG7)
        have hA7 := hA6.gf hG7
        change zPm M7 n B (nd4 B n v s) at hP7
        refine zj_aload0 (n := 103) rfl dX10_parseNode_102 ?_
        refine zj_getr (n := 106) (q := 120) rfl dX10_parseNode_103 zf_X10_24 rfl (by decide) (by decide) hA7.now ?_
        refine zj_iload1 (n := 107) rfl dX10_parseNode_106 ?_
        refine zj_iconstN_1 (n := 108) rfl dX10_parseNode_107 ?_
        refine zj_iaddN (n := 109) rfl dX10_parseNode_108 ?_
        refine zj_aload0 (n := 110) rfl dX10_parseNode_109 ?_
        refine zj_ldcwS (i := 10) (n := 113) rfl dX10_parseNode_110 rfl (by decide) rfl ?_
        refine zj_iconstN_0 (n := 114) rfl dX10_parseNode_113 ?_
        refine zj_bipushN (v := 9) (n := 116) rfl dX10_parseNode_114 (by decide) ?_
        refine zj_callV3 (n := 119) (a' := 0) (b' := 0) rfl dX10_parseNode_116 zm_X10_355 (by decide) (by decide) rfl (Nat.le_of_ble_eq_true rfl) (Nat.le_of_ble_eq_true rfl) (Nat.le_of_ble_eq_true rfl) (Nat.le_of_ble_eq_true rfl) (jX10_numberAfter hP7 (by decide) (by decide) (by decide) ?_)
        intro M8 x8 hx8b hG8 hP8 hx8
        have hF8 : zHf M M8 := hF7.tr (zHf.of hG8)
        have hA8 := hA7.gf hG8
        change zPm M8 n B (nd6 B n v s) at hP8
        refine zj_iastoreN (n := 120) rfl dX10_parseNode_119 (by decide) rfl (by rw [show zLen 120 = 698 from rfl]; omega) ?_
        refine zj_gen (P := fun M9 => zHf M M9 ∧ zPm M9 n B (nd6 B n v s) ∧ zRA M9 120 (vset (vset (vlet v (10 + 12 * v 6 + 6) B (tS B n e2) (tE B n e2)) (10 + 12 * v 6 + 0) x4) (10 + 12 * v 6 + 1) x8)) ⟨hF8.put, hP8.st, hA8.set⟩ ?_
        intro M9 h9
        obtain ⟨hF9, hP9, hA9⟩ := h9
        refine zj_aload0 (n := 121) rfl dX10_parseNode_120 ?_
        refine zj_getr (n := 124) (q := 120) rfl dX10_parseNode_121 zf_X10_24 rfl (by decide) (by decide) hA9.now ?_
        refine zj_iload1 (n := 125) rfl dX10_parseNode_124 ?_
        refine zj_iconstN_2 (n := 126) rfl dX10_parseNode_125 ?_
        refine zj_iaddN (n := 127) rfl dX10_parseNode_126 ?_
        refine zj_aload0 (n := 128) rfl dX10_parseNode_127 ?_
        refine zj_ldcwS (i := 11) (n := 131) rfl dX10_parseNode_128 rfl (by decide) rfl ?_
        refine zj_iconstN_0 (n := 132) rfl dX10_parseNode_131 ?_
        refine zj_sipushN (v := 999) (n := 135) rfl dX10_parseNode_132 (by decide) ?_
        refine zj_callV3 (n := 138) (a' := 0) (b' := 0) rfl dX10_parseNode_135 zm_X10_355 (by decide) (by decide) rfl (Nat.le_of_ble_eq_true rfl) (Nat.le_of_ble_eq_true rfl) (Nat.le_of_ble_eq_true rfl) (Nat.le_of_ble_eq_true rfl) (jX10_numberAfter hP9 (by decide) (by decide) (by decide) ?_)
        intro M10 x10 hx10b hG10 hP10 hx10
        have hF10 : zHf M M10 := hF9.tr (zHf.of hG10)
        have hA10 := hA9.gf hG10
        change zPm M10 n B (nd8 B n v s) at hP10
        refine zj_iastoreN (n := 139) rfl dX10_parseNode_138 (by decide) rfl (by rw [show zLen 120 = 698 from rfl]; omega) ?_
        refine zj_gen (P := fun M11 => zHf M M11 ∧ zPm M11 n B (nd8 B n v s) ∧ zRA M11 120 (vset (vset (vset (vlet v (10 + 12 * v 6 + 6) B (tS B n e2) (tE B n e2)) (10 + 12 * v 6 + 0) x4) (10 + 12 * v 6 + 1) x8) (10 + 12 * v 6 + 2) x10)) ⟨hF10.put, hP10.st, hA10.set⟩ ?_
        intro M11 h11
        obtain ⟨hF11, hP11, hA11⟩ := h11
        refine zj_aload0 (n := 140) rfl dX10_parseNode_139 ?_
        refine zj_getr (n := 143) (q := 120) rfl dX10_parseNode_140 zf_X10_24 rfl (by decide) (by decide) hA11.now ?_
        refine zj_iload1 (n := 144) rfl dX10_parseNode_143 ?_
        refine zj_iconstN_3 (n := 145) rfl dX10_parseNode_144 ?_
        refine zj_iaddN (n := 146) rfl dX10_parseNode_145 ?_
        refine zj_aload0 (n := 147) rfl dX10_parseNode_146 ?_
        refine zj_ldcwS (i := 12) (n := 150) rfl dX10_parseNode_147 rfl (by decide) rfl ?_
        refine zj_iconstN_1 (n := 151) rfl dX10_parseNode_150 ?_
        refine zj_bipushN (v := 50) (n := 153) rfl dX10_parseNode_151 (by decide) ?_
        refine zj_callV3 (n := 156) (a' := 0) (b' := 0) rfl dX10_parseNode_153 zm_X10_355 (by decide) (by decide) rfl (Nat.le_of_ble_eq_true rfl) (Nat.le_of_ble_eq_true rfl) (Nat.le_of_ble_eq_true rfl) (Nat.le_of_ble_eq_true rfl) (jX10_numberAfter hP11 (by decide) (by decide) (by decide) ?_)
        intro M12 x12 hx12b hG12 hP12 hx12
        have hF12 : zHf M M12 := hF11.tr (zHf.of hG12)
        have hA12 := hA11.gf hG12
        change zPm M12 n B (nd10 B n v s) at hP12
        refine zj_iastoreN (n := 157) rfl dX10_parseNode_156 (by decide) rfl (by rw [show zLen 120 = 698 from rfl]; omega) ?_
        refine zj_gen (P := fun M13 => zHf M M13 ∧ zPm M13 n B (nd10 B n v s) ∧ zRA M13 120 (vset (vset (vset (vset (vlet v (10 + 12 * v 6 + 6) B (tS B n e2) (tE B n e2)) (10 + 12 * v 6 + 0) x4) (10 + 12 * v 6 + 1) x8) (10 + 12 * v 6 + 2) x10) (10 + 12 * v 6 + 3) x12)) ⟨hF12.put, hP12.st, hA12.set⟩ ?_
        intro M13 h13
        obtain ⟨hF13, hP13, hA13⟩ := h13
        refine zj_aload0 (n := 158) rfl dX10_parseNode_157 ?_
        refine zj_getr (n := 161) (q := 120) rfl dX10_parseNode_158 zf_X10_24 rfl (by decide) (by decide) hA13.now ?_
        refine zj_bipushN (v := 6) (n := 163) rfl dX10_parseNode_161 (by decide) ?_
        refine zj_dup2 (n := 164) rfl dX10_parseNode_163 ?_
        refine zj_ialoadN (e := v 6) (n := 165) rfl dX10_parseNode_164 (by decide) rfl (by rw [show zLen 120 = 698 from rfl]; omega) (by rw [hA13.2.2 6 (by decide), vset_off (by omega), vset_off (by omega), vset_off (by omega), vset_off (by omega), vlet_off (by omega)]) ?_
        refine zj_iconstN_1 (n := 166) rfl dX10_parseNode_165 ?_
        refine zj_iaddN (n := 167) rfl dX10_parseNode_166 ?_
        refine zj_iastoreN (n := 168) rfl dX10_parseNode_167 (by decide) rfl (by rw [show zLen 120 = 698 from rfl]; omega) ?_
        refine zj_return dX10_parseNode_168 rfl ?_
        refine h _ _ hF13.put hP13.st hA13.set (fun q => ?_)
        have q9 := (sNum_ok q).1
        have q8 := (sTake_ok q9).1
        have q7 := (sNum_ok q8).1
        have q6 := (sTake_ok q7).1
        have q5 := (sNum_ok q6).1
        have q4 := (sTake_ok q5).1
        have q4n := ((sErr_ok (by decide)).mp (sNext_ok.mp q4)).1
        have q3 := (sNumE_ok q4n).1
        have q2 := sNext_ok.mp (sTake_ok q3).1
        have r2 := he2 q2
        have r4 := hx4 q4n
        have r8 := hx8 q6
        have r10 := hx10 q8
        have r12 := hx12 q
        subst r2
        unfold vNode
        rw [r4, r8, r10, r12]
        rfl
      · refine zj_aload0 (n := 79) rfl dX10_parseNode_78 ?_
        refine zj_aload0 (n := 80) rfl dX10_parseNode_79 ?_
        refine zj_getr (n := 83) (q := 120) rfl dX10_parseNode_80 zf_X10_24 rfl (by decide) (by decide) hA5.now ?_
        refine zj_iload1 (n := 84) rfl dX10_parseNode_83 ?_
        refine zj_iconstN_0 (n := 85) rfl dX10_parseNode_84 ?_
        refine zj_iaddN (n := 86) rfl dX10_parseNode_85 ?_
        refine zj_ialoadN (e := x4) (n := 87) rfl dX10_parseNode_86 (by decide) rfl (by rw [show zLen 120 = 698 from rfl]; omega) (by rw [hA5.2.2 _ (by omega), vset_at]) ?_
        refine zj_callV1 (n := 90) (a' := 0) (b' := 0) rfl dX10_parseNode_87 zm_X10_352 (by decide) (by decide) rfl (Nat.le_of_ble_eq_true rfl) (Nat.le_of_ble_eq_true rfl) (Nat.le_of_ble_eq_true rfl) (Nat.le_of_ble_eq_true rfl) (jX10_isTakenPosition hA5 (hW.ag (fun j hj => by unfold zAc at hj; rw [vset_off (by omega), vlet_off (by omega)])) (by omega) ?_)
        rw [taken_ag (v := v) (fun j hj => by unfold zAc at hj; rw [vset_off (by omega), vlet_off (by omega)])]
        refine zj_ifB_eq (n := 93) (tgt := 98) rfl dX10_parseNode_90 (by decide) (fun c90 => ?_) (fun c90 => ?_)
        · refine zj_gen (P := fun M6 => zHf M M6 ∧ zPm M6 n B (nd4e B n v s) ∧ zRA M6 120 (vset (vlet v (10 + 12 * v 6 + 6) B (tS B n e2) (tE B n e2)) (10 + 12 * v 6 + 0) x4)) ⟨hF5, (by unfold nd4e; rw [← hx4 (of_decide_eq_true c75), c90]; exact hP5), hA5⟩ ?_
          intro M6 h6
          obtain ⟨hF6, hP6, hA6⟩ := h6
          refine zj_aload0 (n := 99) rfl dX10_parseNode_98 ?_
          refine zj_callV0 (n := 102) (a' := 0) (b' := 0) rfl dX10_parseNode_99 zm_X10_320 (by decide) (by decide) rfl (Nat.le_of_ble_eq_true rfl) (Nat.le_of_ble_eq_true rfl) (Nat.le_of_ble_eq_true rfl) (Nat.le_of_ble_eq_true rfl) (jX10_goOn hP6 ?_)
          intro M7 hG7 hP7
          have hF7 : zHf M M7 := hF6.tr (zHf.of hG7)
          have hA7 := hA6.gf hG7
          change zPm M7 n B (nd4 B n v s) at hP7
          refine zj_aload0 (n := 103) rfl dX10_parseNode_102 ?_
          refine zj_getr (n := 106) (q := 120) rfl dX10_parseNode_103 zf_X10_24 rfl (by decide) (by decide) hA7.now ?_
          refine zj_iload1 (n := 107) rfl dX10_parseNode_106 ?_
          refine zj_iconstN_1 (n := 108) rfl dX10_parseNode_107 ?_
          refine zj_iaddN (n := 109) rfl dX10_parseNode_108 ?_
          refine zj_aload0 (n := 110) rfl dX10_parseNode_109 ?_
          refine zj_ldcwS (i := 10) (n := 113) rfl dX10_parseNode_110 rfl (by decide) rfl ?_
          refine zj_iconstN_0 (n := 114) rfl dX10_parseNode_113 ?_
          refine zj_bipushN (v := 9) (n := 116) rfl dX10_parseNode_114 (by decide) ?_
          refine zj_callV3 (n := 119) (a' := 0) (b' := 0) rfl dX10_parseNode_116 zm_X10_355 (by decide) (by decide) rfl (Nat.le_of_ble_eq_true rfl) (Nat.le_of_ble_eq_true rfl) (Nat.le_of_ble_eq_true rfl) (Nat.le_of_ble_eq_true rfl) (jX10_numberAfter hP7 (by decide) (by decide) (by decide) ?_)
          intro M8 x8 hx8b hG8 hP8 hx8
          have hF8 : zHf M M8 := hF7.tr (zHf.of hG8)
          have hA8 := hA7.gf hG8
          change zPm M8 n B (nd6 B n v s) at hP8
          refine zj_iastoreN (n := 120) rfl dX10_parseNode_119 (by decide) rfl (by rw [show zLen 120 = 698 from rfl]; omega) ?_
          refine zj_gen (P := fun M9 => zHf M M9 ∧ zPm M9 n B (nd6 B n v s) ∧ zRA M9 120 (vset (vset (vlet v (10 + 12 * v 6 + 6) B (tS B n e2) (tE B n e2)) (10 + 12 * v 6 + 0) x4) (10 + 12 * v 6 + 1) x8)) ⟨hF8.put, hP8.st, hA8.set⟩ ?_
          intro M9 h9
          obtain ⟨hF9, hP9, hA9⟩ := h9
          refine zj_aload0 (n := 121) rfl dX10_parseNode_120 ?_
          refine zj_getr (n := 124) (q := 120) rfl dX10_parseNode_121 zf_X10_24 rfl (by decide) (by decide) hA9.now ?_
          refine zj_iload1 (n := 125) rfl dX10_parseNode_124 ?_
          refine zj_iconstN_2 (n := 126) rfl dX10_parseNode_125 ?_
          refine zj_iaddN (n := 127) rfl dX10_parseNode_126 ?_
          refine zj_aload0 (n := 128) rfl dX10_parseNode_127 ?_
          refine zj_ldcwS (i := 11) (n := 131) rfl dX10_parseNode_128 rfl (by decide) rfl ?_
          refine zj_iconstN_0 (n := 132) rfl dX10_parseNode_131 ?_
          refine zj_sipushN (v := 999) (n := 135) rfl dX10_parseNode_132 (by decide) ?_
          refine zj_callV3 (n := 138) (a' := 0) (b' := 0) rfl dX10_parseNode_135 zm_X10_355 (by decide) (by decide) rfl (Nat.le_of_ble_eq_true rfl) (Nat.le_of_ble_eq_true rfl) (Nat.le_of_ble_eq_true rfl) (Nat.le_of_ble_eq_true rfl) (jX10_numberAfter hP9 (by decide) (by decide) (by decide) ?_)
          intro M10 x10 hx10b hG10 hP10 hx10
          have hF10 : zHf M M10 := hF9.tr (zHf.of hG10)
          have hA10 := hA9.gf hG10
          change zPm M10 n B (nd8 B n v s) at hP10
          refine zj_iastoreN (n := 139) rfl dX10_parseNode_138 (by decide) rfl (by rw [show zLen 120 = 698 from rfl]; omega) ?_
          refine zj_gen (P := fun M11 => zHf M M11 ∧ zPm M11 n B (nd8 B n v s) ∧ zRA M11 120 (vset (vset (vset (vlet v (10 + 12 * v 6 + 6) B (tS B n e2) (tE B n e2)) (10 + 12 * v 6 + 0) x4) (10 + 12 * v 6 + 1) x8) (10 + 12 * v 6 + 2) x10)) ⟨hF10.put, hP10.st, hA10.set⟩ ?_
          intro M11 h11
          obtain ⟨hF11, hP11, hA11⟩ := h11
          refine zj_aload0 (n := 140) rfl dX10_parseNode_139 ?_
          refine zj_getr (n := 143) (q := 120) rfl dX10_parseNode_140 zf_X10_24 rfl (by decide) (by decide) hA11.now ?_
          refine zj_iload1 (n := 144) rfl dX10_parseNode_143 ?_
          refine zj_iconstN_3 (n := 145) rfl dX10_parseNode_144 ?_
          refine zj_iaddN (n := 146) rfl dX10_parseNode_145 ?_
          refine zj_aload0 (n := 147) rfl dX10_parseNode_146 ?_
          refine zj_ldcwS (i := 12) (n := 150) rfl dX10_parseNode_147 rfl (by decide) rfl ?_
          refine zj_iconstN_1 (n := 151) rfl dX10_parseNode_150 ?_
          refine zj_bipushN (v := 50) (n := 153) rfl dX10_parseNode_151 (by decide) ?_
          refine zj_callV3 (n := 156) (a' := 0) (b' := 0) rfl dX10_parseNode_153 zm_X10_355 (by decide) (by decide) rfl (Nat.le_of_ble_eq_true rfl) (Nat.le_of_ble_eq_true rfl) (Nat.le_of_ble_eq_true rfl) (Nat.le_of_ble_eq_true rfl) (jX10_numberAfter hP11 (by decide) (by decide) (by decide) ?_)
          intro M12 x12 hx12b hG12 hP12 hx12
          have hF12 : zHf M M12 := hF11.tr (zHf.of hG12)
          have hA12 := hA11.gf hG12
          change zPm M12 n B (nd10 B n v s) at hP12
          refine zj_iastoreN (n := 157) rfl dX10_parseNode_156 (by decide) rfl (by rw [show zLen 120 = 698 from rfl]; omega) ?_
          refine zj_gen (P := fun M13 => zHf M M13 ∧ zPm M13 n B (nd10 B n v s) ∧ zRA M13 120 (vset (vset (vset (vset (vlet v (10 + 12 * v 6 + 6) B (tS B n e2) (tE B n e2)) (10 + 12 * v 6 + 0) x4) (10 + 12 * v 6 + 1) x8) (10 + 12 * v 6 + 2) x10) (10 + 12 * v 6 + 3) x12)) ⟨hF12.put, hP12.st, hA12.set⟩ ?_
          intro M13 h13
          obtain ⟨hF13, hP13, hA13⟩ := h13
          refine zj_aload0 (n := 158) rfl dX10_parseNode_157 ?_
          refine zj_getr (n := 161) (q := 120) rfl dX10_parseNode_158 zf_X10_24 rfl (by decide) (by decide) hA13.now ?_
          refine zj_bipushN (v := 6) (n := 163) rfl dX10_parseNode_161 (by decide) ?_
          refine zj_dup2 (n := 164) rfl dX10_parseNode_163 ?_
          refine zj_ialoadN (e := v 6) (n := 165) rfl dX10_parseNode_164 (by decide) rfl (by rw [show zLen 120 = 698 from rfl]; omega) (by rw [hA13.2.2 6 (by decide), vset_off (by omega), vset_off (by omega), vset_off (by omega), vset_off (by omega), vlet_off (by omega)]) ?_
          refine zj_iconstN_1 (n := 166) rfl dX10_parseNode_165 ?_
          refine zj_iaddN (n := 167) rfl dX10_parseNode_166 ?_
          refine zj_iastoreN (n := 168) rfl dX10_parseNode_167 (by decide) rfl (by rw [show zLen 120 = 698 from rfl]; omega) ?_
          refine zj_return dX10_parseNode_168 rfl ?_
          refine h _ _ hF13.put hP13.st hA13.set (fun q => ?_)
          have q9 := (sNum_ok q).1
          have q8 := (sTake_ok q9).1
          have q7 := (sNum_ok q8).1
          have q6 := (sTake_ok q7).1
          have q5 := (sNum_ok q6).1
          have q4 := (sTake_ok q5).1
          have q4n := ((sErr_ok (by decide)).mp (sNext_ok.mp q4)).1
          have q3 := (sNumE_ok q4n).1
          have q2 := sNext_ok.mp (sTake_ok q3).1
          have r2 := he2 q2
          have r4 := hx4 q4n
          have r8 := hx8 q6
          have r10 := hx10 q8
          have r12 := hx12 q
          subst r2
          unfold vNode
          rw [r4, r8, r10, r12]
          rfl
        · refine zj_aload0 (n := 94) rfl dX10_parseNode_93 ?_
          refine zj_iconstN_3 (n := 95) rfl dX10_parseNode_94 ?_
          refine zj_callV1 (n := 98) (a' := 0) (b' := 0) rfl dX10_parseNode_95 zm_X10_317 (by decide) (by decide) rfl (Nat.le_of_ble_eq_true rfl) (Nat.le_of_ble_eq_true rfl) (Nat.le_of_ble_eq_true rfl) (Nat.le_of_ble_eq_true rfl) (jX10_errs hP5 (by decide) ?_)
          intro M9 hG9 hP9
          refine zj_gen (P := fun M6 => zHf M M6 ∧ zPm M6 n B (nd4e B n v s) ∧ zRA M6 120 (vset (vlet v (10 + 12 * v 6 + 6) B (tS B n e2) (tE B n e2)) (10 + 12 * v 6 + 0) x4)) ⟨(hF5.tr (zHf.of2 hG9)), (by unfold nd4e; rw [← hx4 (of_decide_eq_true c75), c90]; exact hP9), (hA5.gf hG9)⟩ ?_
          intro M6 h6
          obtain ⟨hF6, hP6, hA6⟩ := h6
          refine zj_aload0 (n := 99) rfl dX10_parseNode_98 ?_
          refine zj_callV0 (n := 102) (a' := 0) (b' := 0) rfl dX10_parseNode_99 zm_X10_320 (by decide) (by decide) rfl (Nat.le_of_ble_eq_true rfl) (Nat.le_of_ble_eq_true rfl) (Nat.le_of_ble_eq_true rfl) (Nat.le_of_ble_eq_true rfl) (jX10_goOn hP6 ?_)
          intro M7 hG7 hP7
          have hF7 : zHf M M7 := hF6.tr (zHf.of hG7)
          have hA7 := hA6.gf hG7
          change zPm M7 n B (nd4 B n v s) at hP7
          refine zj_aload0 (n := 103) rfl dX10_parseNode_102 ?_
          refine zj_getr (n := 106) (q := 120) rfl dX10_parseNode_103 zf_X10_24 rfl (by decide) (by decide) hA7.now ?_
          refine zj_iload1 (n := 107) rfl dX10_parseNode_106 ?_
          refine zj_iconstN_1 (n := 108) rfl dX10_parseNode_107 ?_
          refine zj_iaddN (n := 109) rfl dX10_parseNode_108 ?_
          refine zj_aload0 (n := 110) rfl dX10_parseNode_109 ?_
          refine zj_ldcwS (i := 10) (n := 113) rfl dX10_parseNode_110 rfl (by decide) rfl ?_
          refine zj_iconstN_0 (n := 114) rfl dX10_parseNode_113 ?_
          refine zj_bipushN (v := 9) (n := 116) rfl dX10_parseNode_114 (by decide) ?_
          refine zj_callV3 (n := 119) (a' := 0) (b' := 0) rfl dX10_parseNode_116 zm_X10_355 (by decide) (by decide) rfl (Nat.le_of_ble_eq_true rfl) (Nat.le_of_ble_eq_true rfl) (Nat.le_of_ble_eq_true rfl) (Nat.le_of_ble_eq_true rfl) (jX10_numberAfter hP7 (by decide) (by decide) (by decide) ?_)
          intro M8 x8 hx8b hG8 hP8 hx8
          have hF8 : zHf M M8 := hF7.tr (zHf.of hG8)
          have hA8 := hA7.gf hG8
          change zPm M8 n B (nd6 B n v s) at hP8
          refine zj_iastoreN (n := 120) rfl dX10_parseNode_119 (by decide) rfl (by rw [show zLen 120 = 698 from rfl]; omega) ?_
          refine zj_gen (P := fun M9 => zHf M M9 ∧ zPm M9 n B (nd6 B n v s) ∧ zRA M9 120 (vset (vset (vlet v (10 + 12 * v 6 + 6) B (tS B n e2) (tE B n e2)) (10 + 12 * v 6 + 0) x4) (10 + 12 * v 6 + 1) x8)) ⟨hF8.put, hP8.st, hA8.set⟩ ?_
          intro M9 h9
          obtain ⟨hF9, hP9, hA9⟩ := h9
          refine zj_aload0 (n := 121) rfl dX10_parseNode_120 ?_
          refine zj_getr (n := 124) (q := 120) rfl dX10_parseNode_121 zf_X10_24 rfl (by decide) (by decide) hA9.now ?_
          refine zj_iload1 (n := 125) rfl dX10_parseNode_124 ?_
          refine zj_iconstN_2 (n := 126) rfl dX10_parseNode_125 ?_
          refine zj_iaddN (n := 127) rfl dX10_parseNode_126 ?_
          refine zj_aload0 (n := 128) rfl dX10_parseNode_127 ?_
          refine zj_ldcwS (i := 11) (n := 131) rfl dX10_parseNode_128 rfl (by decide) rfl ?_
          refine zj_iconstN_0 (n := 132) rfl dX10_parseNode_131 ?_
          refine zj_sipushN (v := 999) (n := 135) rfl dX10_parseNode_132 (by decide) ?_
          refine zj_callV3 (n := 138) (a' := 0) (b' := 0) rfl dX10_parseNode_135 zm_X10_355 (by decide) (by decide) rfl (Nat.le_of_ble_eq_true rfl) (Nat.le_of_ble_eq_true rfl) (Nat.le_of_ble_eq_true rfl) (Nat.le_of_ble_eq_true rfl) (jX10_numberAfter hP9 (by decide) (by decide) (by decide) ?_)
          intro M10 x10 hx10b hG10 hP10 hx10
          have hF10 : zHf M M10 := hF9.tr (zHf.of hG10)
          have hA10 := hA9.gf hG10
          change zPm M10 n B (nd8 B n v s) at hP10
          refine zj_iastoreN (n := 139) rfl dX10_parseNode_138 (by decide) rfl (by rw [show zLen 120 = 698 from rfl]; omega) ?_
          refine zj_gen (P := fun M11 => zHf M M11 ∧ zPm M11 n B (nd8 B n v s) ∧ zRA M11 120 (vset (vset (vset (vlet v (10 + 12 * v 6 + 6) B (tS B n e2) (tE B n e2)) (10 + 12 * v 6 + 0) x4) (10 + 12 * v 6 + 1) x8) (10 + 12 * v 6 + 2) x10)) ⟨hF10.put, hP10.st, hA10.set⟩ ?_
          intro M11 h11
          obtain ⟨hF11, hP11, hA11⟩ := h11
          refine zj_aload0 (n := 140) rfl dX10_parseNode_139 ?_
          refine zj_getr (n := 143) (q := 120) rfl dX10_parseNode_140 zf_X10_24 rfl (by decide) (by decide) hA11.now ?_
          refine zj_iload1 (n := 144) rfl dX10_parseNode_143 ?_
          refine zj_iconstN_3 (n := 145) rfl dX10_parseNode_144 ?_
          refine zj_iaddN (n := 146) rfl dX10_parseNode_145 ?_
          refine zj_aload0 (n := 147) rfl dX10_parseNode_146 ?_
          refine zj_ldcwS (i := 12) (n := 150) rfl dX10_parseNode_147 rfl (by decide) rfl ?_
          refine zj_iconstN_1 (n := 151) rfl dX10_parseNode_150 ?_
          refine zj_bipushN (v := 50) (n := 153) rfl dX10_parseNode_151 (by decide) ?_
          refine zj_callV3 (n := 156) (a' := 0) (b' := 0) rfl dX10_parseNode_153 zm_X10_355 (by decide) (by decide) rfl (Nat.le_of_ble_eq_true rfl) (Nat.le_of_ble_eq_true rfl) (Nat.le_of_ble_eq_true rfl) (Nat.le_of_ble_eq_true rfl) (jX10_numberAfter hP11 (by decide) (by decide) (by decide) ?_)
          intro M12 x12 hx12b hG12 hP12 hx12
          have hF12 : zHf M M12 := hF11.tr (zHf.of hG12)
          have hA12 := hA11.gf hG12
          change zPm M12 n B (nd10 B n v s) at hP12
          refine zj_iastoreN (n := 157) rfl dX10_parseNode_156 (by decide) rfl (by rw [show zLen 120 = 698 from rfl]; omega) ?_
          refine zj_gen (P := fun M13 => zHf M M13 ∧ zPm M13 n B (nd10 B n v s) ∧ zRA M13 120 (vset (vset (vset (vset (vlet v (10 + 12 * v 6 + 6) B (tS B n e2) (tE B n e2)) (10 + 12 * v 6 + 0) x4) (10 + 12 * v 6 + 1) x8) (10 + 12 * v 6 + 2) x10) (10 + 12 * v 6 + 3) x12)) ⟨hF12.put, hP12.st, hA12.set⟩ ?_
          intro M13 h13
          obtain ⟨hF13, hP13, hA13⟩ := h13
          refine zj_aload0 (n := 158) rfl dX10_parseNode_157 ?_
          refine zj_getr (n := 161) (q := 120) rfl dX10_parseNode_158 zf_X10_24 rfl (by decide) (by decide) hA13.now ?_
          refine zj_bipushN (v := 6) (n := 163) rfl dX10_parseNode_161 (by decide) ?_
          refine zj_dup2 (n := 164) rfl dX10_parseNode_163 ?_
          refine zj_ialoadN (e := v 6) (n := 165) rfl dX10_parseNode_164 (by decide) rfl (by rw [show zLen 120 = 698 from rfl]; omega) (by rw [hA13.2.2 6 (by decide), vset_off (by omega), vset_off (by omega), vset_off (by omega), vset_off (by omega), vlet_off (by omega)]) ?_
          refine zj_iconstN_1 (n := 166) rfl dX10_parseNode_165 ?_
          refine zj_iaddN (n := 167) rfl dX10_parseNode_166 ?_
          refine zj_iastoreN (n := 168) rfl dX10_parseNode_167 (by decide) rfl (by rw [show zLen 120 = 698 from rfl]; omega) ?_
          refine zj_return dX10_parseNode_168 rfl ?_
          refine h _ _ hF13.put hP13.st hA13.set (fun q => ?_)
          have q9 := (sNum_ok q).1
          have q8 := (sTake_ok q9).1
          have q7 := (sNum_ok q8).1
          have q6 := (sTake_ok q7).1
          have q5 := (sNum_ok q6).1
          have q4 := (sTake_ok q5).1
          have q4n := ((sErr_ok (by decide)).mp (sNext_ok.mp q4)).1
          have q3 := (sNumE_ok q4n).1
          have q2 := sNext_ok.mp (sTake_ok q3).1
          have r2 := he2 q2
          have r4 := hx4 q4n
          have r8 := hx8 q6
          have r10 := hx10 q8
          have r12 := hx12 q
          subst r2
          unfold vNode
          rw [r4, r8, r10, r12]
          rfl
    · refine zj_return dX10_parseNode_24 rfl ?_
      have q1 := of_decide_eq_false c21
      have q10 := nd10_no (B := B) (n := n) (v := v) (s := s) q1
      exact h M1 v hF1 (by rw [q10]; exact hP1) hA1 (fun q => absurd (by rw [q10] at q; exact q) q1)
theorem jX10_parseTenant {n : Nat} {B : Nat → Nat} {s : zS} {v : zV} {Q : Option Value → zM → Prop} {X : String → zM → Prop} {M : zM} (hP : zPm M n B s) (hA : zRA M 120 v) (hW : zWF v) (hN : zNmS v) (h : ∀ M' v', zHf M M' → zPm M' n B (tn6 B n v s) → zRA M' 120 v' → ((tn6 B n v s).1 = 0 → v' = vTen B n v s) → Q none M') : zJ yX10_parseTenant cX10_parseTenant 2 none rX10_parseTenant Q X rX10_parseTenant.cells rX10_parseTenant.slots 0 (zEnt 2 [.ref 118]) [] M := by
  have h6 := hW.nN
  have h7 := hW.tN
  have h8 := hW.gN
  show zJ yX10_parseTenant cX10_parseTenant 2 none rX10_parseTenant Q X 0 0 0 [some (.ref 118), none] [] M
  refine zj_aload0 (n := 1) rfl dX10_parseTenant_0 ?_
  refine zj_aload0 (n := 2) rfl dX10_parseTenant_1 ?_
  refine zj_getr (n := 5) (q := 120) rfl dX10_parseTenant_2 zf_X10_24 rfl (by decide) (by decide) hA.now ?_
  refine zj_bipushN (v := 7) (n := 7) rfl dX10_parseTenant_5 (by decide) ?_
  refine zj_ialoadN (e := v 7) (n := 8) rfl dX10_parseTenant_7 (by decide) rfl (by rw [show zLen 120 = 698 from rfl]; omega) (hA.2.2 _ (by omega)) ?_
  refine zj_bipushN (v := 6) (n := 10) rfl dX10_parseTenant_8 (by decide) ?_
  refine zj_icmpN_ge (n := 13) (tgt := 17) rfl dX10_parseTenant_10 (by decide) (by omega) (by omega) (fun c10 => ?_) (fun c10 => ?_)
  · refine zj_iconstN_0 (n := 18) rfl dX10_parseTenant_17 ?_
    rw [show nI 0 = zb (decide (v 7 < 6)) from by rw [decide_eq_false (by omega)]; rfl]
    refine zj_callV1 (n := 21) (a' := 0) (b' := 0) rfl dX10_parseTenant_18 zm_X10_346 (by decide) (by decide) rfl (Nat.le_of_ble_eq_true rfl) (Nat.le_of_ble_eq_true rfl) (Nat.le_of_ble_eq_true rfl) (Nat.le_of_ble_eq_true rfl) (jX10_begins hP ?_)
    intro M1 hG1 hP1
    have hF1 : zHf M M1 := zHf.of hG1
    have hA1 := hA.gf hG1
    change zPm M1 n B (tn1 B n v s) at hP1
    refine zj_ifB_ne (n := 24) (tgt := 25) rfl dX10_parseTenant_21 (by decide) (fun c21 => ?_) (fun c21 => ?_)
    · have hlt : v 7 < 6 := by have q := ((sErr_ok (by decide)).mp (sNext_ok.mp (of_decide_eq_true c21))).2; simpa using q
      refine zj_sipushN (v := 202) (n := 28) rfl dX10_parseTenant_25 (by decide) ?_
      refine zj_bipushN (v := 11) (n := 30) rfl dX10_parseTenant_28 (by decide) ?_
      refine zj_aload0 (n := 31) rfl dX10_parseTenant_30 ?_
      refine zj_getr (n := 34) (q := 120) rfl dX10_parseTenant_31 zf_X10_24 rfl (by decide) (by decide) hA1.now ?_
      refine zj_bipushN (v := 7) (n := 36) rfl dX10_parseTenant_34 (by decide) ?_
      refine zj_ialoadN (e := v 7) (n := 37) rfl dX10_parseTenant_36 (by decide) rfl (by rw [show zLen 120 = 698 from rfl]; omega) (hA1.2.2 _ (by omega)) ?_
      refine zj_imulN (n := 38) rfl dX10_parseTenant_37 ?_
      refine zj_iaddN (n := 39) rfl dX10_parseTenant_38 ?_
      refine zj_istore1 (n := 40) rfl dX10_parseTenant_39 rfl (Nat.le_of_ble_eq_true rfl) ?_
      refine zj_aload0 (n := 41) rfl dX10_parseTenant_40 ?_
      refine zj_iconstN_1 (n := 42) rfl dX10_parseTenant_41 ?_
      refine zj_iload1 (n := 43) rfl dX10_parseTenant_42 ?_
      refine zj_iconstN_5 (n := 44) rfl dX10_parseTenant_43 ?_
      refine zj_iaddN (n := 45) rfl dX10_parseTenant_44 ?_
      refine zj_callV2 (n := 48) (a' := 0) (b' := 0) rfl dX10_parseTenant_45 zm_X10_349 (by decide) (by decide) rfl (Nat.le_of_ble_eq_true rfl) (Nat.le_of_ble_eq_true rfl) (Nat.le_of_ble_eq_true rfl) (Nat.le_of_ble_eq_true rfl) (jX10_newName hP1 hA1 hW hN (by decide) (by omega) ?_)
      intro M2 e2 he2 hG2 hP2 hA2
      have hF2 : zHf M M2 := hF1.tr hG2
      change zPm M2 n B (tn2 B n v s) at hP2
      refine zj_aload0 (n := 49) rfl dX10_parseTenant_48 ?_
      refine zj_getr (n := 52) (q := 120) rfl dX10_parseTenant_49 zf_X10_24 rfl (by decide) (by decide) hA2.now ?_
      refine zj_iload1 (n := 53) rfl dX10_parseTenant_52 ?_
      refine zj_iconstN_0 (n := 54) rfl dX10_parseTenant_53 ?_
      refine zj_iaddN (n := 55) rfl dX10_parseTenant_54 ?_
      refine zj_aload0 (n := 56) rfl dX10_parseTenant_55 ?_
      refine zj_ldcwS (i := 14) (n := 59) rfl dX10_parseTenant_56 rfl (by decide) rfl ?_
      refine zj_iconstN_0 (n := 60) rfl dX10_parseTenant_59 ?_
      refine zj_ldcwN (v := 999999) (n := 63) rfl dX10_parseTenant_60 zc_X10_359 ?_
      refine zj_callV3 (n := 66) (a' := 0) (b' := 0) rfl dX10_parseTenant_63 zm_X10_355 (by decide) (by decide) rfl (Nat.le_of_ble_eq_true rfl) (Nat.le_of_ble_eq_true rfl) (Nat.le_of_ble_eq_true rfl) (Nat.le_of_ble_eq_true rfl) (jX10_numberAfter hP2 (by decide) (by decide) (by decide) ?_)
      intro M4 x4 hx4b hG4 hP4 hx4
      have hF4 : zHf M M4 := hF2.tr (zHf.of hG4)
      have hA4 := hA2.gf hG4
      change zPm M4 n B (tn4 B n v s) at hP4
      refine zj_iastoreN (n := 67) rfl dX10_parseTenant_66 (by decide) rfl (by rw [show zLen 120 = 698 from rfl]; omega) ?_
      refine zj_gen (P := fun M5 => zHf M M5 ∧ zPm M5 n B (tn4 B n v s) ∧ zRA M5 120 (vset (vlet v (202 + 11 * v 7 + 5) B (tS B n e2) (tE B n e2)) (202 + 11 * v 7 + 0) x4)) ⟨hF4.put, hP4.st, hA4.set⟩ ?_
      intro M5 h5
      obtain ⟨hF5, hP5, hA5⟩ := h5
      refine zj_aload0 (n := 68) rfl dX10_parseTenant_67 ?_
      refine zj_getr (n := 71) (q := 120) rfl dX10_parseTenant_68 zf_X10_24 rfl (by decide) (by decide) hA5.now ?_
      refine zj_iload1 (n := 72) rfl dX10_parseTenant_71 ?_
      refine zj_iconstN_1 (n := 73) rfl dX10_parseTenant_72 ?_
      refine zj_iaddN (n := 74) rfl dX10_parseTenant_73 ?_
      refine zj_aload0 (n := 75) rfl dX10_parseTenant_74 ?_
      refine zj_ldcwS (i := 15) (n := 78) rfl dX10_parseTenant_75 rfl (by decide) rfl ?_
      refine zj_iconstN_0 (n := 79) rfl dX10_parseTenant_78 ?_
      refine zj_ldcwN (v := 999999) (n := 82) rfl dX10_parseTenant_79 zc_X10_359 ?_
      refine zj_callV3 (n := 85) (a' := 0) (b' := 0) rfl dX10_parseTenant_82 zm_X10_355 (by decide) (by decide) rfl (Nat.le_of_ble_eq_true rfl) (Nat.le_of_ble_eq_true rfl) (Nat.le_of_ble_eq_true rfl) (Nat.le_of_ble_eq_true rfl) (jX10_numberAfter hP5 (by decide) (by decide) (by decide) ?_)
      intro M6 x6 hx6b hG6 hP6 hx6
      have hF6 : zHf M M6 := hF5.tr (zHf.of hG6)
      have hA6 := hA5.gf hG6
      change zPm M6 n B (tn6 B n v s) at hP6
      refine zj_iastoreN (n := 86) rfl dX10_parseTenant_85 (by decide) rfl (by rw [show zLen 120 = 698 from rfl]; omega) ?_
      refine zj_gen (P := fun M7 => zHf M M7 ∧ zPm M7 n B (tn6 B n v s) ∧ zRA M7 120 (vset (vset (vlet v (202 + 11 * v 7 + 5) B (tS B n e2) (tE B n e2)) (202 + 11 * v 7 + 0) x4) (202 + 11 * v 7 + 1) x6)) ⟨hF6.put, hP6.st, hA6.set⟩ ?_
      intro M7 h7
      obtain ⟨hF7, hP7, hA7⟩ := h7
      refine zj_aload0 (n := 87) rfl dX10_parseTenant_86 ?_
      refine zj_getr (n := 90) (q := 120) rfl dX10_parseTenant_87 zf_X10_24 rfl (by decide) (by decide) hA7.now ?_
      refine zj_bipushN (v := 7) (n := 92) rfl dX10_parseTenant_90 (by decide) ?_
      refine zj_dup2 (n := 93) rfl dX10_parseTenant_92 ?_
      refine zj_ialoadN (e := v 7) (n := 94) rfl dX10_parseTenant_93 (by decide) rfl (by rw [show zLen 120 = 698 from rfl]; omega) (by rw [hA7.2.2 7 (by decide), vset_off (by omega), vset_off (by omega), vlet_off (by omega)]) ?_
      refine zj_iconstN_1 (n := 95) rfl dX10_parseTenant_94 ?_
      refine zj_iaddN (n := 96) rfl dX10_parseTenant_95 ?_
      refine zj_iastoreN (n := 97) rfl dX10_parseTenant_96 (by decide) rfl (by rw [show zLen 120 = 698 from rfl]; omega) ?_
      refine zj_return dX10_parseTenant_97 rfl ?_
      refine h _ _ hF7.put hP7.st hA7.set (fun q => ?_)
      have q5 := (sNum_ok q).1
      have q4 := (sTake_ok q5).1
      have q3 := (sNum_ok q4).1
      have q2 := sNext_ok.mp (sTake_ok q3).1
      have r2 := he2 q2
      have r4 := hx4 q4
      have r6 := hx6 q
      subst r2
      unfold vTen
      rw [r4, r6]
      rfl
    · refine zj_return dX10_parseTenant_24 rfl ?_
      have q1 := of_decide_eq_false c21
      have q10 := tn6_no (B := B) (n := n) (v := v) (s := s) q1
      exact h M1 v hF1 (by rw [q10]; exact hP1) hA1 (fun q => absurd (by rw [q10] at q; exact q) q1)
  · refine zj_iconstN_1 (n := 14) rfl dX10_parseTenant_13 ?_
    refine zj_goto (tgt := 18) dX10_parseTenant_14 (by decide) ?_
    rw [show nI 1 = zb (decide (v 7 < 6)) from by rw [decide_eq_true (by omega)]; rfl]
    refine zj_callV1 (n := 21) (a' := 0) (b' := 0) rfl dX10_parseTenant_18 zm_X10_346 (by decide) (by decide) rfl (Nat.le_of_ble_eq_true rfl) (Nat.le_of_ble_eq_true rfl) (Nat.le_of_ble_eq_true rfl) (Nat.le_of_ble_eq_true rfl) (jX10_begins hP ?_)
    intro M1 hG1 hP1
    have hF1 : zHf M M1 := zHf.of hG1
    have hA1 := hA.gf hG1
    change zPm M1 n B (tn1 B n v s) at hP1
    refine zj_ifB_ne (n := 24) (tgt := 25) rfl dX10_parseTenant_21 (by decide) (fun c21 => ?_) (fun c21 => ?_)
    · have hlt : v 7 < 6 := by have q := ((sErr_ok (by decide)).mp (sNext_ok.mp (of_decide_eq_true c21))).2; simpa using q
      refine zj_sipushN (v := 202) (n := 28) rfl dX10_parseTenant_25 (by decide) ?_
      refine zj_bipushN (v := 11) (n := 30) rfl dX10_parseTenant_28 (by decide) ?_
      refine zj_aload0 (n := 31) rfl dX10_parseTenant_30 ?_
      refine zj_getr (n := 34) (q := 120) rfl dX10_parseTenant_31 zf_X10_24 rfl (by decide) (by decide) hA1.now ?_
      refine zj_bipushN (v := 7) (n := 36) rfl dX10_parseTenant_34 (by decide) ?_
      refine zj_ialoadN (e := v 7) (n := 37) rfl dX10_parseTenant_36 (by decide) rfl (by rw [show zLen 120 = 698 from rfl]; omega) (hA1.2.2 _ (by omega)) ?_
      refine zj_imulN (n := 38) rfl dX10_parseTenant_37 ?_
      refine zj_iaddN (n := 39) rfl dX10_parseTenant_38 ?_
      refine zj_istore1 (n := 40) rfl dX10_parseTenant_39 rfl (Nat.le_of_ble_eq_true rfl) ?_
      refine zj_aload0 (n := 41) rfl dX10_parseTenant_40 ?_
      refine zj_iconstN_1 (n := 42) rfl dX10_parseTenant_41 ?_
      refine zj_iload1 (n := 43) rfl dX10_parseTenant_42 ?_
      refine zj_iconstN_5 (n := 44) rfl dX10_parseTenant_43 ?_
      refine zj_iaddN (n := 45) rfl dX10_parseTenant_44 ?_
      refine zj_callV2 (n := 48) (a' := 0) (b' := 0) rfl dX10_parseTenant_45 zm_X10_349 (by decide) (by decide) rfl (Nat.le_of_ble_eq_true rfl) (Nat.le_of_ble_eq_true rfl) (Nat.le_of_ble_eq_true rfl) (Nat.le_of_ble_eq_true rfl) (jX10_newName hP1 hA1 hW hN (by decide) (by omega) ?_)
      intro M2 e2 he2 hG2 hP2 hA2
      have hF2 : zHf M M2 := hF1.tr hG2
      change zPm M2 n B (tn2 B n v s) at hP2
      refine zj_aload0 (n := 49) rfl dX10_parseTenant_48 ?_
      refine zj_getr (n := 52) (q := 120) rfl dX10_parseTenant_49 zf_X10_24 rfl (by decide) (by decide) hA2.now ?_
      refine zj_iload1 (n := 53) rfl dX10_parseTenant_52 ?_
      refine zj_iconstN_0 (n := 54) rfl dX10_parseTenant_53 ?_
      refine zj_iaddN (n := 55) rfl dX10_parseTenant_54 ?_
      refine zj_aload0 (n := 56) rfl dX10_parseTenant_55 ?_
      refine zj_ldcwS (i := 14) (n := 59) rfl dX10_parseTenant_56 rfl (by decide) rfl ?_
      refine zj_iconstN_0 (n := 60) rfl dX10_parseTenant_59 ?_
      refine zj_ldcwN (v := 999999) (n := 63) rfl dX10_parseTenant_60 zc_X10_359 ?_
      refine zj_callV3 (n := 66) (a' := 0) (b' := 0) rfl dX10_parseTenant_63 zm_X10_355 (by decide) (by decide) rfl (Nat.le_of_ble_eq_true rfl) (Nat.le_of_ble_eq_true rfl) (Nat.le_of_ble_eq_true rfl) (Nat.le_of_ble_eq_true rfl) (jX10_numberAfter hP2 (by decide) (by decide) (by decide) ?_)
      intro M4 x4 hx4b hG4 hP4 hx4
      have hF4 : zHf M M4 := hF2.tr (zHf.of hG4)
      have hA4 := hA2.gf hG4
      change zPm M4 n B (tn4 B n v s) at hP4
      refine zj_iastoreN (n := 67) rfl dX10_parseTenant_66 (by decide) rfl (by rw [show zLen 120 = 698 from rfl]; omega) ?_
      refine zj_gen (P := fun M5 => zHf M M5 ∧ zPm M5 n B (tn4 B n v s) ∧ zRA M5 120 (vset (vlet v (202 + 11 * v 7 + 5) B (tS B n e2) (tE B n e2)) (202 + 11 * v 7 + 0) x4)) ⟨hF4.put, hP4.st, hA4.set⟩ ?_
      intro M5 h5
      obtain ⟨hF5, hP5, hA5⟩ := h5
      refine zj_aload0 (n := 68) rfl dX10_parseTenant_67 ?_
      refine zj_getr (n := 71) (q := 120) rfl dX10_parseTenant_68 zf_X10_24 rfl (by decide) (by decide) hA5.now ?_
      refine zj_iload1 (n := 72) rfl dX10_parseTenant_71 ?_
      refine zj_iconstN_1 (n := 73) rfl dX10_parseTenant_72 ?_
      refine zj_iaddN (n := 74) rfl dX10_parseTenant_73 ?_
      refine zj_aload0 (n := 75) rfl dX10_parseTenant_74 ?_
      refine zj_ldcwS (i := 15) (n := 78) rfl dX10_parseTenant_75 rfl (by decide) rfl ?_
      refine zj_iconstN_0 (n := 79) rfl dX10_parseTenant_78 ?_
      refine zj_ldcwN (v := 999999) (n := 82) rfl dX10_parseTenant_79 zc_X10_359 ?_
      refine zj_callV3 (n := 85) (a' := 0) (b' := 0) rfl dX10_parseTenant_82 zm_X10_355 (by decide) (by decide) rfl (Nat.le_of_ble_eq_true rfl) (Nat.le_of_ble_eq_true rfl) (Nat.le_of_ble_eq_true rfl) (Nat.le_of_ble_eq_true rfl) (jX10_numberAfter hP5 (by decide) (by decide) (by decide) ?_)
      intro M6 x6 hx6b hG6 hP6 hx6
      have hF6 : zHf M M6 := hF5.tr (zHf.of hG6)
      have hA6 := hA5.gf hG6
      change zPm M6 n B (tn6 B n v s) at hP6
      refine zj_iastoreN (n := 86) rfl dX10_parseTenant_85 (by decide) rfl (by rw [show zLen 120 = 698 from rfl]; omega) ?_
      refine zj_gen (P := fun M7 => zHf M M7 ∧ zPm M7 n B (tn6 B n v s) ∧ zRA M7 120 (vset (vset (vlet v (202 + 11 * v 7 + 5) B (tS B n e2) (tE B n e2)) (202 + 11 * v 7 + 0) x4) (202 + 11 * v 7 + 1) x6)) ⟨hF6.put, hP6.st, hA6.set⟩ ?_
      intro M7 h7
      obtain ⟨hF7, hP7, hA7⟩ := h7
      refine zj_aload0 (n := 87) rfl dX10_parseTenant_86 ?_
      refine zj_getr (n := 90) (q := 120) rfl dX10_parseTenant_87 zf_X10_24 rfl (by decide) (by decide) hA7.now ?_
      refine zj_bipushN (v := 7) (n := 92) rfl dX10_parseTenant_90 (by decide) ?_
      refine zj_dup2 (n := 93) rfl dX10_parseTenant_92 ?_
      refine zj_ialoadN (e := v 7) (n := 94) rfl dX10_parseTenant_93 (by decide) rfl (by rw [show zLen 120 = 698 from rfl]; omega) (by rw [hA7.2.2 7 (by decide), vset_off (by omega), vset_off (by omega), vlet_off (by omega)]) ?_
      refine zj_iconstN_1 (n := 95) rfl dX10_parseTenant_94 ?_
      refine zj_iaddN (n := 96) rfl dX10_parseTenant_95 ?_
      refine zj_iastoreN (n := 97) rfl dX10_parseTenant_96 (by decide) rfl (by rw [show zLen 120 = 698 from rfl]; omega) ?_
      refine zj_return dX10_parseTenant_97 rfl ?_
      refine h _ _ hF7.put hP7.st hA7.set (fun q => ?_)
      have q5 := (sNum_ok q).1
      have q4 := (sTake_ok q5).1
      have q3 := (sNum_ok q4).1
      have q2 := sNext_ok.mp (sTake_ok q3).1
      have r2 := he2 q2
      have r4 := hx4 q4
      have r6 := hx6 q
      subst r2
      unfold vTen
      rw [r4, r6]
      rfl
    · refine zj_return dX10_parseTenant_24 rfl ?_
      have q1 := of_decide_eq_false c21
      have q10 := tn6_no (B := B) (n := n) (v := v) (s := s) q1
      exact h M1 v hF1 (by rw [q10]; exact hP1) hA1 (fun q => absurd (by rw [q10] at q; exact q) q1)
theorem jX10_parseRing {n : Nat} {B : Nat → Nat} {s : zS} {v : zV} {Q : Option Value → zM → Prop} {X : String → zM → Prop} {M : zM} (hP : zPm M n B s) (hA : zRA M 120 v) (h : ∀ M' v', zHf M M' → zPm M' n B (rg9 B n s) → zRA M' 120 v' → ((rg9 B n s).1 = 0 → v' = vRing B n v s) → Q none M') : zJ yX10_parseRing cX10_parseRing 1 none rX10_parseRing Q X rX10_parseRing.cells rX10_parseRing.slots 0 (zEnt 1 [.ref 118]) [] M := by
  show zJ yX10_parseRing cX10_parseRing 1 none rX10_parseRing Q X 0 0 0 [some (.ref 118)] [] M
  refine zj_aload0 (n := 1) rfl dX10_parseRing_0 ?_
  refine zj_ldcwS (i := 0) (n := 4) rfl dX10_parseRing_1 rfl (by decide) rfl ?_
  refine zj_callV1 (n := 7) (a' := 0) (b' := 0) rfl dX10_parseRing_4 zm_X10_323 (by decide) (by decide) rfl (Nat.le_of_ble_eq_true rfl) (Nat.le_of_ble_eq_true rfl) (Nat.le_of_ble_eq_true rfl) (Nat.le_of_ble_eq_true rfl) (jX10_word hP (by decide) ?_)
  intro M1 hG1 hP1
  have hF1 : zHf M M1 := zHf.of hG1
  have hA1 := hA.gf hG1
  refine zj_aload0 (n := 8) rfl dX10_parseRing_7 ?_
  refine zj_getr (n := 11) (q := 120) rfl dX10_parseRing_8 zf_X10_24 rfl (by decide) (by decide) hA1.now ?_
  refine zj_iconstN_0 (n := 12) rfl dX10_parseRing_11 ?_
  refine zj_aload0 (n := 13) rfl dX10_parseRing_12 ?_
  refine zj_ldcwS (i := 1) (n := 16) rfl dX10_parseRing_13 rfl (by decide) rfl ?_
  refine zj_iconstN_1 (n := 17) rfl dX10_parseRing_16 ?_
  refine zj_ldcwN (v := 99999) (n := 20) rfl dX10_parseRing_17 zc_X10_363 ?_
  refine zj_callV3 (n := 23) (a' := 0) (b' := 0) rfl dX10_parseRing_20 zm_X10_355 (by decide) (by decide) rfl (Nat.le_of_ble_eq_true rfl) (Nat.le_of_ble_eq_true rfl) (Nat.le_of_ble_eq_true rfl) (Nat.le_of_ble_eq_true rfl) (jX10_numberAfter hP1 (by decide) (by decide) (by decide) ?_)
  intro M2 x3 hx3b hG2 hP2 hx3
  have hF2 : zHf M M2 := hF1.tr (zHf.of hG2)
  have hA2 := hA1.gf hG2
  refine zj_iastoreN (n := 24) rfl dX10_parseRing_23 (by decide) rfl (by rw [show zLen 120 = 698 from rfl]; omega) ?_
  refine zj_gen (P := fun M3 => zHf M M3 ∧ zPm M3 n B (rg3 B n s) ∧ zRA M3 120 (vset v 0 x3)) ⟨hF2.put, hP2.st, hA2.set⟩ ?_
  intro M3 h3
  obtain ⟨hF3, hP3, hA3⟩ := h3
  refine zj_aload0 (n := 25) rfl dX10_parseRing_24 ?_
  refine zj_getr (n := 28) (q := 120) rfl dX10_parseRing_25 zf_X10_24 rfl (by decide) (by decide) hA3.now ?_
  refine zj_iconstN_1 (n := 29) rfl dX10_parseRing_28 ?_
  refine zj_aload0 (n := 30) rfl dX10_parseRing_29 ?_
  refine zj_ldcwS (i := 2) (n := 33) rfl dX10_parseRing_30 rfl (by decide) rfl ?_
  refine zj_iconstN_0 (n := 34) rfl dX10_parseRing_33 ?_
  refine zj_ldcwN (v := 99999) (n := 37) rfl dX10_parseRing_34 zc_X10_363 ?_
  refine zj_callV3 (n := 40) (a' := 0) (b' := 0) rfl dX10_parseRing_37 zm_X10_355 (by decide) (by decide) rfl (Nat.le_of_ble_eq_true rfl) (Nat.le_of_ble_eq_true rfl) (Nat.le_of_ble_eq_true rfl) (Nat.le_of_ble_eq_true rfl) (jX10_numberAfter hP3 (by decide) (by decide) (by decide) ?_)
  intro M4 x5 hx5b hG4 hP4 hx5
  have hF4 : zHf M M4 := hF3.tr (zHf.of hG4)
  have hA4 := hA3.gf hG4
  refine zj_iastoreN (n := 41) rfl dX10_parseRing_40 (by decide) rfl (by rw [show zLen 120 = 698 from rfl]; omega) ?_
  refine zj_gen (P := fun M5 => zHf M M5 ∧ zPm M5 n B (rg5 B n s) ∧ zRA M5 120 (vset (vset v 0 x3) 1 x5)) ⟨hF4.put, hP4.st, hA4.set⟩ ?_
  intro M5 h5
  obtain ⟨hF5, hP5, hA5⟩ := h5
  refine zj_aload0 (n := 42) rfl dX10_parseRing_41 ?_
  refine zj_getr (n := 45) (q := 120) rfl dX10_parseRing_42 zf_X10_24 rfl (by decide) (by decide) hA5.now ?_
  refine zj_iconstN_2 (n := 46) rfl dX10_parseRing_45 ?_
  refine zj_aload0 (n := 47) rfl dX10_parseRing_46 ?_
  refine zj_ldcwS (i := 3) (n := 50) rfl dX10_parseRing_47 rfl (by decide) rfl ?_
  refine zj_iconstN_0 (n := 51) rfl dX10_parseRing_50 ?_
  refine zj_sipushN (v := 9999) (n := 54) rfl dX10_parseRing_51 (by decide) ?_
  refine zj_callV3 (n := 57) (a' := 0) (b' := 0) rfl dX10_parseRing_54 zm_X10_355 (by decide) (by decide) rfl (Nat.le_of_ble_eq_true rfl) (Nat.le_of_ble_eq_true rfl) (Nat.le_of_ble_eq_true rfl) (Nat.le_of_ble_eq_true rfl) (jX10_numberAfter hP5 (by decide) (by decide) (by decide) ?_)
  intro M6 x7 hx7b hG6 hP6 hx7
  have hF6 : zHf M M6 := hF5.tr (zHf.of hG6)
  have hA6 := hA5.gf hG6
  refine zj_iastoreN (n := 58) rfl dX10_parseRing_57 (by decide) rfl (by rw [show zLen 120 = 698 from rfl]; omega) ?_
  refine zj_gen (P := fun M7 => zHf M M7 ∧ zPm M7 n B (rg7 B n s) ∧ zRA M7 120 (vset (vset (vset v 0 x3) 1 x5) 2 x7)) ⟨hF6.put, hP6.st, hA6.set⟩ ?_
  intro M7 h7
  obtain ⟨hF7, hP7, hA7⟩ := h7
  refine zj_aload0 (n := 59) rfl dX10_parseRing_58 ?_
  refine zj_ldcwS (i := 4) (n := 62) rfl dX10_parseRing_59 rfl (by decide) rfl ?_
  refine zj_callV1 (n := 65) (a' := 0) (b' := 0) rfl dX10_parseRing_62 zm_X10_323 (by decide) (by decide) rfl (Nat.le_of_ble_eq_true rfl) (Nat.le_of_ble_eq_true rfl) (Nat.le_of_ble_eq_true rfl) (Nat.le_of_ble_eq_true rfl) (jX10_word hP7 (by decide) ?_)
  intro M8 hG8 hP8
  have hF8 : zHf M M8 := hF7.tr (zHf.of hG8)
  have hA8 := hA7.gf hG8
  change zPm M8 n B (rg8 B n s) at hP8
  refine zj_aload0 (n := 66) rfl dX10_parseRing_65 ?_
  refine zj_getr (n := 69) (q := 120) rfl dX10_parseRing_66 zf_X10_24 rfl (by decide) (by decide) hA8.now ?_
  refine zj_iconstN_3 (n := 70) rfl dX10_parseRing_69 ?_
  refine zj_aload0 (n := 71) rfl dX10_parseRing_70 ?_
  refine zj_ldcwS (i := 5) (n := 74) rfl dX10_parseRing_71 rfl (by decide) rfl ?_
  refine zj_callV1 (n := 77) (a' := 0) (b' := 0) rfl dX10_parseRing_74 zm_X10_272 (by decide) (by decide) rfl (Nat.le_of_ble_eq_true rfl) (Nat.le_of_ble_eq_true rfl) (Nat.le_of_ble_eq_true rfl) (Nat.le_of_ble_eq_true rfl) (jX10_isText (i := 5) hP8 (by decide) ?_)
  refine zj_ifB_eq (n := 80) (tgt := 84) rfl dX10_parseRing_77 (by decide) (fun c77 => ?_) (fun c77 => ?_)
  · refine zj_aload0 (n := 85) rfl dX10_parseRing_84 ?_
    refine zj_ldcwS (i := 6) (n := 88) rfl dX10_parseRing_85 rfl (by decide) rfl ?_
    refine zj_callV1 (n := 91) (a' := 0) (b' := 0) rfl dX10_parseRing_88 zm_X10_272 (by decide) (by decide) rfl (Nat.le_of_ble_eq_true rfl) (Nat.le_of_ble_eq_true rfl) (Nat.le_of_ble_eq_true rfl) (Nat.le_of_ble_eq_true rfl) (jX10_isText (i := 6) hP8 (by decide) ?_)
    refine zj_ifB_eq (n := 94) (tgt := 98) rfl dX10_parseRing_91 (by decide) (fun c91 => ?_) (fun c91 => ?_)
    · refine zj_aload0 (n := 99) rfl dX10_parseRing_98 ?_
      refine zj_ldcwS (i := 7) (n := 102) rfl dX10_parseRing_99 rfl (by decide) rfl ?_
      refine zj_callV1 (n := 105) (a' := 0) (b' := 0) rfl dX10_parseRing_102 zm_X10_272 (by decide) (by decide) rfl (Nat.le_of_ble_eq_true rfl) (Nat.le_of_ble_eq_true rfl) (Nat.le_of_ble_eq_true rfl) (Nat.le_of_ble_eq_true rfl) (jX10_isText (i := 7) hP8 (by decide) ?_)
      refine zj_ifB_eq (n := 108) (tgt := 112) rfl dX10_parseRing_105 (by decide) (fun c105 => ?_) (fun c105 => ?_)
      · refine zj_iconst_m1 (n := 113) rfl dX10_parseRing_112 ?_
        rw [show (-1 : Int32) = nI 4294967295 from rfl]
        refine zj_iastoreN (n := 114) rfl dX10_parseRing_113 (by decide) rfl (by rw [show zLen 120 = 698 from rfl]; omega) ?_
        refine zj_gen (P := fun M9 => zHf M M9 ∧ zPm M9 n B (rg8 B n s) ∧ zRA M9 120 (vset (vset (vset (vset v 0 x3) 1 x5) 2 x7) 3 4294967295)) ⟨hF8.put, hP8.st, hA8.set⟩ ?_
        intro M9 h9
        obtain ⟨hF9, hP9, hA9⟩ := h9
        refine zj_aload0 (n := 115) rfl dX10_parseRing_114 ?_
        refine zj_getr (n := 118) (q := 120) rfl dX10_parseRing_115 zf_X10_24 rfl (by decide) (by decide) hA9.now ?_
        refine zj_iconstN_3 (n := 119) rfl dX10_parseRing_118 ?_
        refine zj_ialoadN (e := 4294967295) (n := 120) rfl dX10_parseRing_119 (by decide) rfl (by rw [show zLen 120 = 698 from rfl]; omega) (by rw [hA9.2.2 3 (by decide), vset_at]) ?_
        refine zj_iconst_m1 (n := 121) rfl dX10_parseRing_120 ?_
        refine zj_icmp_ne (n := 124) (tgt := 129) rfl dX10_parseRing_121 (by decide) (fun q => absurd rfl q) (fun _ => ?_)
        refine zj_aload0 (n := 125) rfl dX10_parseRing_124 ?_
        refine zj_iconstN_1 (n := 126) rfl dX10_parseRing_125 ?_
        refine zj_callV1 (n := 129) (a' := 0) (b' := 0) rfl dX10_parseRing_126 zm_X10_317 (by decide) (by decide) rfl (Nat.le_of_ble_eq_true rfl) (Nat.le_of_ble_eq_true rfl) (Nat.le_of_ble_eq_true rfl) (Nat.le_of_ble_eq_true rfl) (jX10_errs hP9 (by decide) ?_)
        intro M10 hG10 hP10
        refine zj_gen (P := fun M11 => zHf M M11 ∧ zPm M11 n B (sErr 1 B n (!(sAt B n (rg8 B n s).2.2 5 || sAt B n (rg8 B n s).2.2 6 || sAt B n (rg8 B n s).2.2 7)) (rg8 B n s)) ∧ zRA M11 120 (vset (vset (vset (vset v 0 x3) 1 x5) 2 x7) 3 4294967295)) ⟨(hF9.tr (zHf.of2 hG10)), (by
          by_cases q : (rg8 B n s).1 = 0
          · rw [decide_eq_true q, Bool.true_and] at c77 c91 c105
            rw [c77, c91, c105]
            exact hP10
          · rw [sErr_no q]; rw [sRef_no q] at hP10; exact hP10), (hA9.gf hG10)⟩ ?_
        intro M11 h11
        obtain ⟨hF11, hP11, hA11⟩ := h11
        refine zj_aload0 (n := 130) rfl dX10_parseRing_129 ?_
        refine zj_callV0 (n := 133) (a' := 0) (b' := 0) rfl dX10_parseRing_130 zm_X10_320 (by decide) (by decide) rfl (Nat.le_of_ble_eq_true rfl) (Nat.le_of_ble_eq_true rfl) (Nat.le_of_ble_eq_true rfl) (Nat.le_of_ble_eq_true rfl) (jX10_goOn hP11 ?_)
        intro M12 hG12 hP12
        have hF12 : zHf M M12 := hF11.tr (zHf.of hG12)
        have hA12 := hA11.gf hG12
        refine zj_return dX10_parseRing_133 rfl ?_
        refine h M12 _ hF12 hP12 hA12 (fun q => ?_)
        have qr := (sErr_ok (by decide)).mp (sNext_ok.mp q)
        have q7 := (sTake_ok qr.1).1
        have q6 := (sNum_ok q7).1
        have q5 := (sTake_ok q6).1
        have q4 := (sNum_ok q5).1
        have q3 := (sTake_ok q4).1
        have r3 := hx3 q3
        have r5 := hx5 q5
        have r7 := hx7 q7
        subst r3
        subst r5
        subst r7
        exact absurd qr.2 (by rw [decide_eq_true qr.1, Bool.true_and] at c77 c91 c105; rw [c77, c91, c105]; simp)
      · refine zj_iconstN_2 (n := 109) rfl dX10_parseRing_108 ?_
        refine zj_goto (tgt := 113) dX10_parseRing_109 (by decide) ?_
        skip
        refine zj_iastoreN (n := 114) rfl dX10_parseRing_113 (by decide) rfl (by rw [show zLen 120 = 698 from rfl]; omega) ?_
        refine zj_gen (P := fun M9 => zHf M M9 ∧ zPm M9 n B (rg8 B n s) ∧ zRA M9 120 (vset (vset (vset (vset v 0 x3) 1 x5) 2 x7) 3 2)) ⟨hF8.put, hP8.st, hA8.set⟩ ?_
        intro M9 h9
        obtain ⟨hF9, hP9, hA9⟩ := h9
        refine zj_aload0 (n := 115) rfl dX10_parseRing_114 ?_
        refine zj_getr (n := 118) (q := 120) rfl dX10_parseRing_115 zf_X10_24 rfl (by decide) (by decide) hA9.now ?_
        refine zj_iconstN_3 (n := 119) rfl dX10_parseRing_118 ?_
        refine zj_ialoadN (e := 2) (n := 120) rfl dX10_parseRing_119 (by decide) rfl (by rw [show zLen 120 = 698 from rfl]; omega) (by rw [hA9.2.2 3 (by decide), vset_at]) ?_
        refine zj_iconst_m1 (n := 121) rfl dX10_parseRing_120 ?_
        refine zj_icmp_ne (n := 124) (tgt := 129) rfl dX10_parseRing_121 (by decide) (fun _ => ?_) (fun q => absurd q (nI_ne_m1 (by decide)))
        refine zj_gen (P := fun M11 => zHf M M11 ∧ zPm M11 n B (sErr 1 B n (!(sAt B n (rg8 B n s).2.2 5 || sAt B n (rg8 B n s).2.2 6 || sAt B n (rg8 B n s).2.2 7)) (rg8 B n s)) ∧ zRA M11 120 (vset (vset (vset (vset v 0 x3) 1 x5) 2 x7) 3 2)) ⟨hF9, (by rw [Bool.and_eq_true] at c105; rw [sErr_eq (by rw [c105.2]; simp)]; exact hP9), hA9⟩ ?_
        intro M11 h11
        obtain ⟨hF11, hP11, hA11⟩ := h11
        refine zj_aload0 (n := 130) rfl dX10_parseRing_129 ?_
        refine zj_callV0 (n := 133) (a' := 0) (b' := 0) rfl dX10_parseRing_130 zm_X10_320 (by decide) (by decide) rfl (Nat.le_of_ble_eq_true rfl) (Nat.le_of_ble_eq_true rfl) (Nat.le_of_ble_eq_true rfl) (Nat.le_of_ble_eq_true rfl) (jX10_goOn hP11 ?_)
        intro M12 hG12 hP12
        have hF12 : zHf M M12 := hF11.tr (zHf.of hG12)
        have hA12 := hA11.gf hG12
        refine zj_return dX10_parseRing_133 rfl ?_
        refine h M12 _ hF12 hP12 hA12 (fun q => ?_)
        have qr := (sErr_ok (by decide)).mp (sNext_ok.mp q)
        have q7 := (sTake_ok qr.1).1
        have q6 := (sNum_ok q7).1
        have q5 := (sTake_ok q6).1
        have q4 := (sNum_ok q5).1
        have q3 := (sTake_ok q4).1
        have r3 := hx3 q3
        have r5 := hx5 q5
        have r7 := hx7 q7
        subst r3
        subst r5
        subst r7
        rw [Bool.and_eq_true] at c105
        have er : vRul B n (rg8 B n s).2.2 = 2 := by
          unfold vRul
          rw [if_neg (by rw [sAt_one (j := 5) c105.2 (by decide)]; simp), if_neg (by rw [sAt_one (j := 6) c105.2 (by decide)]; simp)]
        unfold vRing
        rw [er]
        rfl
    · refine zj_iconstN_1 (n := 95) rfl dX10_parseRing_94 ?_
      refine zj_goto (tgt := 113) dX10_parseRing_95 (by decide) ?_
      skip
      refine zj_iastoreN (n := 114) rfl dX10_parseRing_113 (by decide) rfl (by rw [show zLen 120 = 698 from rfl]; omega) ?_
      refine zj_gen (P := fun M9 => zHf M M9 ∧ zPm M9 n B (rg8 B n s) ∧ zRA M9 120 (vset (vset (vset (vset v 0 x3) 1 x5) 2 x7) 3 1)) ⟨hF8.put, hP8.st, hA8.set⟩ ?_
      intro M9 h9
      obtain ⟨hF9, hP9, hA9⟩ := h9
      refine zj_aload0 (n := 115) rfl dX10_parseRing_114 ?_
      refine zj_getr (n := 118) (q := 120) rfl dX10_parseRing_115 zf_X10_24 rfl (by decide) (by decide) hA9.now ?_
      refine zj_iconstN_3 (n := 119) rfl dX10_parseRing_118 ?_
      refine zj_ialoadN (e := 1) (n := 120) rfl dX10_parseRing_119 (by decide) rfl (by rw [show zLen 120 = 698 from rfl]; omega) (by rw [hA9.2.2 3 (by decide), vset_at]) ?_
      refine zj_iconst_m1 (n := 121) rfl dX10_parseRing_120 ?_
      refine zj_icmp_ne (n := 124) (tgt := 129) rfl dX10_parseRing_121 (by decide) (fun _ => ?_) (fun q => absurd q (nI_ne_m1 (by decide)))
      refine zj_gen (P := fun M11 => zHf M M11 ∧ zPm M11 n B (sErr 1 B n (!(sAt B n (rg8 B n s).2.2 5 || sAt B n (rg8 B n s).2.2 6 || sAt B n (rg8 B n s).2.2 7)) (rg8 B n s)) ∧ zRA M11 120 (vset (vset (vset (vset v 0 x3) 1 x5) 2 x7) 3 1)) ⟨hF9, (by rw [Bool.and_eq_true] at c91; rw [sErr_eq (by rw [c91.2]; simp)]; exact hP9), hA9⟩ ?_
      intro M11 h11
      obtain ⟨hF11, hP11, hA11⟩ := h11
      refine zj_aload0 (n := 130) rfl dX10_parseRing_129 ?_
      refine zj_callV0 (n := 133) (a' := 0) (b' := 0) rfl dX10_parseRing_130 zm_X10_320 (by decide) (by decide) rfl (Nat.le_of_ble_eq_true rfl) (Nat.le_of_ble_eq_true rfl) (Nat.le_of_ble_eq_true rfl) (Nat.le_of_ble_eq_true rfl) (jX10_goOn hP11 ?_)
      intro M12 hG12 hP12
      have hF12 : zHf M M12 := hF11.tr (zHf.of hG12)
      have hA12 := hA11.gf hG12
      refine zj_return dX10_parseRing_133 rfl ?_
      refine h M12 _ hF12 hP12 hA12 (fun q => ?_)
      have qr := (sErr_ok (by decide)).mp (sNext_ok.mp q)
      have q7 := (sTake_ok qr.1).1
      have q6 := (sNum_ok q7).1
      have q5 := (sTake_ok q6).1
      have q4 := (sNum_ok q5).1
      have q3 := (sTake_ok q4).1
      have r3 := hx3 q3
      have r5 := hx5 q5
      have r7 := hx7 q7
      subst r3
      subst r5
      subst r7
      rw [Bool.and_eq_true] at c91
      have er : vRul B n (rg8 B n s).2.2 = 1 := by
        unfold vRul
        rw [if_neg (by rw [sAt_one (j := 5) c91.2 (by decide)]; simp), if_pos c91.2]
      unfold vRing
      rw [er]
      rfl
  · refine zj_iconstN_0 (n := 81) rfl dX10_parseRing_80 ?_
    refine zj_goto (tgt := 113) dX10_parseRing_81 (by decide) ?_
    skip
    refine zj_iastoreN (n := 114) rfl dX10_parseRing_113 (by decide) rfl (by rw [show zLen 120 = 698 from rfl]; omega) ?_
    refine zj_gen (P := fun M9 => zHf M M9 ∧ zPm M9 n B (rg8 B n s) ∧ zRA M9 120 (vset (vset (vset (vset v 0 x3) 1 x5) 2 x7) 3 0)) ⟨hF8.put, hP8.st, hA8.set⟩ ?_
    intro M9 h9
    obtain ⟨hF9, hP9, hA9⟩ := h9
    refine zj_aload0 (n := 115) rfl dX10_parseRing_114 ?_
    refine zj_getr (n := 118) (q := 120) rfl dX10_parseRing_115 zf_X10_24 rfl (by decide) (by decide) hA9.now ?_
    refine zj_iconstN_3 (n := 119) rfl dX10_parseRing_118 ?_
    refine zj_ialoadN (e := 0) (n := 120) rfl dX10_parseRing_119 (by decide) rfl (by rw [show zLen 120 = 698 from rfl]; omega) (by rw [hA9.2.2 3 (by decide), vset_at]) ?_
    refine zj_iconst_m1 (n := 121) rfl dX10_parseRing_120 ?_
    refine zj_icmp_ne (n := 124) (tgt := 129) rfl dX10_parseRing_121 (by decide) (fun _ => ?_) (fun q => absurd q (nI_ne_m1 (by decide)))
    refine zj_gen (P := fun M11 => zHf M M11 ∧ zPm M11 n B (sErr 1 B n (!(sAt B n (rg8 B n s).2.2 5 || sAt B n (rg8 B n s).2.2 6 || sAt B n (rg8 B n s).2.2 7)) (rg8 B n s)) ∧ zRA M11 120 (vset (vset (vset (vset v 0 x3) 1 x5) 2 x7) 3 0)) ⟨hF9, (by rw [Bool.and_eq_true] at c77; rw [sErr_eq (by rw [c77.2]; simp)]; exact hP9), hA9⟩ ?_
    intro M11 h11
    obtain ⟨hF11, hP11, hA11⟩ := h11
    refine zj_aload0 (n := 130) rfl dX10_parseRing_129 ?_
    refine zj_callV0 (n := 133) (a' := 0) (b' := 0) rfl dX10_parseRing_130 zm_X10_320 (by decide) (by decide) rfl (Nat.le_of_ble_eq_true rfl) (Nat.le_of_ble_eq_true rfl) (Nat.le_of_ble_eq_true rfl) (Nat.le_of_ble_eq_true rfl) (jX10_goOn hP11 ?_)
    intro M12 hG12 hP12
    have hF12 : zHf M M12 := hF11.tr (zHf.of hG12)
    have hA12 := hA11.gf hG12
    refine zj_return dX10_parseRing_133 rfl ?_
    refine h M12 _ hF12 hP12 hA12 (fun q => ?_)
    have qr := (sErr_ok (by decide)).mp (sNext_ok.mp q)
    have q7 := (sTake_ok qr.1).1
    have q6 := (sNum_ok q7).1
    have q5 := (sTake_ok q6).1
    have q4 := (sNum_ok q5).1
    have q3 := (sTake_ok q4).1
    have r3 := hx3 q3
    have r5 := hx5 q5
    have r7 := hx7 q7
    subst r3
    subst r5
    subst r7
    rw [Bool.and_eq_true] at c77
    have er : vRul B n (rg8 B n s).2.2 = 0 := by
      unfold vRul
      rw [if_pos c77.2]
    unfold vRing
    rw [er]
    rfl
