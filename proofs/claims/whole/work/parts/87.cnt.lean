/-! THE CLASS: a node, a tenant -/
theorem zRg.kf {S : Nat → Bool} {M M1 : zM} {v : zV} (h : zRg M 9 v) (hF : zKf S M M1) : zRg M1 9 v := h.cg (fun a _ h2 => hF.1 a (by omega))
theorem zRz.kf {S : Nat → Bool} {M M1 : zM} (h : zRz M) (hF : zKf S M M1) : zRz M1 := h.cg (fun a _ h2 => hF.1 a (by omega))
theorem zfo_is {n : Nat} {p q : Nat → Bool} (h : ∀ i, i < n → p i = q i) : (zfo n p).isSome = (zfo n q).isSome := by rw [zfo_congr h]
theorem zfo_any {n : Nat} {p : Nat → Bool} : (zfo n p).isSome = zAny n p := by
  cases h : zfo n p with
  | none =>
    cases w : zAny n p
    · rfl
    · obtain ⟨i, h1, h2⟩ := zAny_iff.mp w
      have h3 := zFst_le n p
      unfold zfo at h
      split at h
      · cases h
      · rename_i q
        have h4 := (zFst_none (p := p)).mp (show zFst n p = n by omega) i h1
        rw [h4] at h2; cases h2
  | some m =>
    have h1 := zfo_s h
    exact (zAny_iff.mpr ⟨m, h1.2, by rw [← h1.1]; exact zFst_lt (by omega)⟩).symm
theorem tE9 {B : Nat → Nat} {n : Nat} {s : zS} : True := trivial
theorem vname_let {v : zV} {b n e : Nat} {B : Nat → Nat} (hb : sBadN B n e = false) (hv : ∀ k, k < 6 → v (b + k) = if k < tE B n e - tS B n e then zsn (B (tS B n e + k)) else 0) : vname v b = vnm B (tS B n e) (tE B n e) := by
  have hn9 := zNam.let hb hv
  have hb2 := hb
  unfold sBadN at hb2
  simp only [Bool.or_eq_false_iff, Bool.not_eq_false', beq_iff_eq, decide_eq_false_iff_not] at hb2
  have h1 := samB_name (B := B) (f := tS B n e) (t := tE B n e) hn9 (fun i hi => tLet hb2.1.1 (by omega))
  have hs9 : samB v b B (tS B n e) (tE B n e) = true := by
    refine samB_iff.mpr ⟨by omega, fun k hk => ?_⟩
    rw [hv k hk]
    unfold tlt
    split
    · rename_i q
      exact zsn_small (by have := zLetter_iff.mp (tLet hb2.1.1 (show tS B n e + k < tE B n e by omega)); omega)
    · rfl
  rw [hs9] at h1
  exact of_decide_eq_true h1.symm
theorem jX5_readNode {n : Nat} {B : Nat → Nat} {s : zS} {v : zV} {Q : Option Value → zM → Prop} {X : String → zM → Prop} {M : zM} (hP : zPs M n B s) (hs : s.1 = 0) (hR : zRg M 9 v) (hp : zPv v) (hat : sAt B n s.2.2 8 = true) (h : ∀ M', zC9 M M' → zPs M' n B (sEnd B n (nd10 B n v s)) → zRz M' → ((sEnd B n (nd10 B n v s)).1 = 0 → zRg M' 9 (vNode B n v s)) → Q none M') : zJ yX5_readNode cX5_readNode 8 none rX5_readNode Q X rX5_readNode.cells rX5_readNode.slots 0 (zEnt 8 [.ref 104]) [] M := by
  have hW := hp.1
  have hN := hp.2.1
  have h6 := hW.nN
  have h7 := hW.tN
  have h8 := hW.gN
  have hF0 : zC9 M M := zC9.rf
  have hn1400 := hP.n
  show zJ yX5_readNode cX5_readNode 8 none rX5_readNode Q X 0 0 0 [some (.ref 104), none, none, none, none, none, none, none] [] M
  refine zj_aload0 (n := 1) rfl dX5_readNode_0 ?_
  refine zj_getkw (i := 8) (n := 4) rfl dX5_readNode_1 (by decide) rfl zs_X5_41 ?_
  refine zj_aload0 (n := 5) rfl dX5_readNode_4 ?_
  refine zj_getr (n := 8) (q := 9) rfl dX5_readNode_5 zf_X5_12 rfl (by decide) (by decide) rfl ?_
  refine zj_getr (n := 11) (q := 10) rfl dX5_readNode_8 zf_X5_125 rfl (by decide) (by decide) rfl ?_
  refine zj_callV2 (n := 14) (a' := 0) (b' := 0) rfl dX5_readNode_11 zm_X5_129 (by decide) (by decide) rfl (Nat.le_of_ble_eq_true rfl) (Nat.le_of_ble_eq_true rfl) (Nat.le_of_ble_eq_true rfl) (Nat.le_of_ble_eq_true rfl) (jX5_takeBeginning hP (by decide) hR.n.1 (by decide) (by decide) (by decide) ?_)
  intro M1 x1 dup hb1 hG1 hP1 hx1 hdup
  have hF1 : zC9 M M1 := hF0.tr (zC9.of hG1)
  have hR1 := hR.kf hG1
  have hfull : decide (v 6 = 16) = !decide (v 6 < 16) := by
    by_cases w : v 6 = 16
    · rw [decide_eq_true w, decide_eq_false (by omega)]; rfl
    · rw [decide_eq_false w, decide_eq_true (by omega)]; rfl
  have hat9 : s.1 = 0 → sAt B n s.2.2 8 = true := fun _ => hat
  rw [sTake_at hat9, hfull] at hx1
  rw [sBeg_is hat9, hfull] at hP1
  change zPs M1 n B (sNext B n (sErr 3 B n dup (sErr 1 B n (sBadN B n (nd1 B n v s).2.2) (nd1 B n v s)))) at hP1
  change (sNext B n (sErr 1 B n (sBadN B n (nd1 B n v s).2.2) (nd1 B n v s))).1 = 0 → x1 = vnm B (tS B n (nd1 B n v s).2.2) (tE B n (nd1 B n v s).2.2) at hx1
  have hd1 : (sErr 1 B n (sBadN B n (nd1 B n v s).2.2) (nd1 B n v s)).1 = 0 → dup = (kfind v 0 B (tS B n (nd1 B n v s).2.2) (tE B n (nd1 B n v s).2.2)).isSome := fun q => by
    rw [hdup, hx1 (sNext_ok.mpr q)]
    refine zfo_is (fun r hr => ?_)
    have hn1 := hN.at (kd := 0) (by decide) (show r < v (6 + 0) from hr)
    have hn2 := hn1.nlt
    have hn3 := vnm_lt B (tS B n (nd1 B n v s).2.2) (tE B n (nd1 B n v s).2.2)
    rw [show M.1 11 (r * 8 + (8 - 1)) = nI (vname v (10 + 12 * r + 6)) from hR.n.c7 hr, show vname v (10 + 12 * r + 6) = vname v (kbase 0 r) from rfl]
    exact decide_eq_decide.mpr (nI_eq (by omega) (by omega))
  have hP2 : zPs M1 n B (nd2 B n v s) := by
    unfold nd2 nd2e
    rw [← sErr_cong hd1]
    exact hP1
  have hx2 : (nd2 B n v s).1 = 0 → x1 = vnm B (tS B n (nd1 B n v s).2.2) (tE B n (nd1 B n v s).2.2) := fun q => hx1 (by
    unfold nd2 nd2e at q
    exact sNext_ok.mpr ((sErr_ok (by decide)).mp (sNext_ok.mp q)).1)
  refine zj_istore1 (n := 15) rfl dX5_readNode_14 rfl (Nat.le_of_ble_eq_true rfl) ?_
  refine zj_aload0 (n := 16) rfl dX5_readNode_15 ?_
  refine zj_getkw (i := 9) (n := 19) rfl dX5_readNode_16 (by decide) rfl zs_X5_133 ?_
  refine zj_callV1 (n := 22) (a' := 0) (b' := 0) rfl dX5_readNode_19 zm_X5_76 (by decide) (by decide) rfl (Nat.le_of_ble_eq_true rfl) (Nat.le_of_ble_eq_true rfl) (Nat.le_of_ble_eq_true rfl) (Nat.le_of_ble_eq_true rfl) (jX5_take hP2 (by decide) ?_)
  intro M02 hG02 hP02
  have hF02 : zC9 M M02 := hF1.tr (zC9.of hG02)
  have hR02 := hR1.kf hG02
  change zPs M02 n B (nd3 B n v s) at hP02
  obtain ⟨-, -, -, -, e2, hen2, hT2, he2⟩ := id hP02
  have hts2 := tS_le (B := B) hen2
  refine zj_aload0 (n := 23) rfl dX5_readNode_22 ?_
  refine zj_getiN (e := tS B n e2) (n := 26) rfl dX5_readNode_23 zf_X5_66 rfl (by decide) (by decide) hT2.2.1 ?_
  refine zj_istore2 (n := 27) rfl dX5_readNode_26 rfl (Nat.le_of_ble_eq_true rfl) ?_
  refine zj_aload0 (n := 28) rfl dX5_readNode_27 ?_
  refine zj_iconstN_0 (n := 29) rfl dX5_readNode_28 ?_
  refine zj_sipushN (v := 9999) (n := 32) rfl dX5_readNode_29 (by decide) ?_
  refine zj_callV2 (n := 35) (a' := 0) (b' := 0) rfl dX5_readNode_32 zm_X5_84 (by decide) (by decide) rfl (Nat.le_of_ble_eq_true rfl) (Nat.le_of_ble_eq_true rfl) (Nat.le_of_ble_eq_true rfl) (Nat.le_of_ble_eq_true rfl) (jX5_takeNumber hP02 (by decide) (by decide) ?_)
  intro M3 x3 hb3 hG3 hP3 hx3
  have hF3 : zC9 M M3 := hF02.tr (zC9.of hG3)
  have hR3 := hR02.kf hG3
  have hx30 : (sNumE B n 0 9999 (nd3 B n v s)).1 = 0 → x3 = tN B n (nd3 B n v s).2.2 := fun q => hx3 (sNext_ok.mpr q)
  have htk : (sNumE B n 0 9999 (nd3 B n v s)).1 = 0 → (zfo (v 6) (fun r => decide (M3.1 11 (r * 8 + 0) = nI x3))).isSome = zAny (v 6) (fun i => v (10 + 12 * i + 0) == tN B n (nd3 B n v s).2.2) := fun q => by
    rw [zfo_any, hx30 q]
    refine zAny_congr (fun i hi => ?_)
    have h9 := (hW.node hi).1
    have h9 : v (10 + 12 * i + 0) ≤ 9999 := h9
    have h10 := (sNumE_ok q).2.2.2
    rw [show M3.1 11 (i * 8 + 0) = nI (v (10 + 12 * i + 0)) from hR3.n.c0 hi]
    by_cases w : v (10 + 12 * i + 0) = tN B n (nd3 B n v s).2.2
    · rw [w, decide_eq_true rfl, beq_self_eq_true]
    · rw [beq_false_of_ne w, decide_eq_false (fun q2 => w ((nI_eq (by omega) (by omega)).mp q2))]
  refine zj_istore3 (n := 36) rfl dX5_readNode_35 rfl (Nat.le_of_ble_eq_true rfl) ?_
  refine zj_aload0 (n := 37) rfl dX5_readNode_36 ?_
  refine zj_getr (n := 40) (q := 9) rfl dX5_readNode_37 zf_X5_12 rfl (by decide) (by decide) rfl ?_
  refine zj_getr (n := 43) (q := 10) rfl dX5_readNode_40 zf_X5_125 rfl (by decide) (by decide) rfl ?_
  refine zj_iconstN_0 (n := 44) rfl dX5_readNode_43 ?_
  refine zj_iload3 (n := 45) rfl dX5_readNode_44 ?_
  refine zj_callV2 (n := 48) (a' := 0) (b' := 0) rfl dX5_readNode_45 zm_X5_136 (by decide) (by decide) rfl (Nat.le_of_ble_eq_true rfl) (Nat.le_of_ble_eq_true rfl) (Nat.le_of_ble_eq_true rfl) (Nat.le_of_ble_eq_true rfl) (jX7_rowWith (c := 8) (col := 0) hR3.n.1 (by decide) ?_)
  refine zj_iconst_m1 (n := 49) rfl dX5_readNode_48 ?_
  refine zj_icmpO_eq (n := 52) (tgt := 58) rfl dX5_readNode_49 (by decide) (fun m hm => by have := zfo_lt hm; omega) (fun c49 => ?_) (fun m49 c49 => ?_)
  · refine zj_gen (P := fun M4 => zC9 M M4 ∧ zRg M4 9 v ∧ zPs M4 n B (nd4 B n v s)) ⟨hF3, hR3, by
      have e9 : sDup (tS B n (nd3 B n v s).2.2) false (sNext B n (sNumE B n 0 9999 (nd3 B n v s))) = sNext B n (sErr 3 B n false (sNumE B n 0 9999 (nd3 B n v s))) := sDup_next (fun q => by rw [sNumE_id q])
      unfold nd4 nd4e
      rw [← sErr_cong (d := false) (fun q => by rw [← htk q, c49]; rfl), ← e9]
      exact hP3⟩ ?_
    intro M4 h4
    obtain ⟨hF4, hR4, hP4⟩ := h4
    refine zj_aload0 (n := 59) rfl dX5_readNode_58 ?_
    refine zj_getkw (i := 10) (n := 62) rfl dX5_readNode_59 (by decide) rfl zs_X5_141 ?_
    refine zj_callV1 (n := 65) (a' := 0) (b' := 0) rfl dX5_readNode_62 zm_X5_76 (by decide) (by decide) rfl (Nat.le_of_ble_eq_true rfl) (Nat.le_of_ble_eq_true rfl) (Nat.le_of_ble_eq_true rfl) (Nat.le_of_ble_eq_true rfl) (jX5_take hP4 (by decide) ?_)
    intro M5 hG5 hP5
    have hF5 : zC9 M M5 := hF4.tr (zC9.of hG5)
    have hR5 := hR4.kf hG5
    change zPs M5 n B (nd5 B n v s) at hP5
    refine zj_aload0 (n := 66) rfl dX5_readNode_65 ?_
    refine zj_iconstN_0 (n := 67) rfl dX5_readNode_66 ?_
    refine zj_bipushN (v := 9) (n := 69) rfl dX5_readNode_67 (by decide) ?_
    refine zj_callV2 (n := 72) (a' := 0) (b' := 0) rfl dX5_readNode_69 zm_X5_84 (by decide) (by decide) rfl (Nat.le_of_ble_eq_true rfl) (Nat.le_of_ble_eq_true rfl) (Nat.le_of_ble_eq_true rfl) (Nat.le_of_ble_eq_true rfl) (jX5_takeNumber hP5 (by decide) (by decide) ?_)
    intro M6 x6 hb6 hG6 hP6 hx6
    have hF6 : zC9 M M6 := hF5.tr (zC9.of hG6)
    have hR6 := hR5.kf hG6
    change zPs M6 n B (nd6 B n v s) at hP6
    refine zj_istore4 (n := 74) rfl dX5_readNode_72 rfl (Nat.le_of_ble_eq_true rfl) ?_
    refine zj_aload0 (n := 75) rfl dX5_readNode_74 ?_
    refine zj_getkw (i := 11) (n := 78) rfl dX5_readNode_75 (by decide) rfl zs_X5_144 ?_
    refine zj_callV1 (n := 81) (a' := 0) (b' := 0) rfl dX5_readNode_78 zm_X5_76 (by decide) (by decide) rfl (Nat.le_of_ble_eq_true rfl) (Nat.le_of_ble_eq_true rfl) (Nat.le_of_ble_eq_true rfl) (Nat.le_of_ble_eq_true rfl) (jX5_take hP6 (by decide) ?_)
    intro M7 hG7 hP7
    have hF7 : zC9 M M7 := hF6.tr (zC9.of hG7)
    have hR7 := hR6.kf hG7
    change zPs M7 n B (nd7 B n v s) at hP7
    refine zj_aload0 (n := 82) rfl dX5_readNode_81 ?_
    refine zj_iconstN_0 (n := 83) rfl dX5_readNode_82 ?_
    refine zj_sipushN (v := 999) (n := 86) rfl dX5_readNode_83 (by decide) ?_
    refine zj_callV2 (n := 89) (a' := 0) (b' := 0) rfl dX5_readNode_86 zm_X5_84 (by decide) (by decide) rfl (Nat.le_of_ble_eq_true rfl) (Nat.le_of_ble_eq_true rfl) (Nat.le_of_ble_eq_true rfl) (Nat.le_of_ble_eq_true rfl) (jX5_takeNumber hP7 (by decide) (by decide) ?_)
    intro M8 x8 hb8 hG8 hP8 hx8
    have hF8 : zC9 M M8 := hF7.tr (zC9.of hG8)
    have hR8 := hR7.kf hG8
    change zPs M8 n B (nd8 B n v s) at hP8
    refine zj_istore5 (n := 91) rfl dX5_readNode_89 rfl (Nat.le_of_ble_eq_true rfl) ?_
    refine zj_aload0 (n := 92) rfl dX5_readNode_91 ?_
    refine zj_getkw (i := 12) (n := 95) rfl dX5_readNode_92 (by decide) rfl zs_X5_147 ?_
    refine zj_callV1 (n := 98) (a' := 0) (b' := 0) rfl dX5_readNode_95 zm_X5_76 (by decide) (by decide) rfl (Nat.le_of_ble_eq_true rfl) (Nat.le_of_ble_eq_true rfl) (Nat.le_of_ble_eq_true rfl) (Nat.le_of_ble_eq_true rfl) (jX5_take hP8 (by decide) ?_)
    intro M9 hG9 hP9
    have hF9 : zC9 M M9 := hF8.tr (zC9.of hG9)
    have hR9 := hR8.kf hG9
    change zPs M9 n B (nd9 B n v s) at hP9
    refine zj_aload0 (n := 99) rfl dX5_readNode_98 ?_
    refine zj_iconstN_1 (n := 100) rfl dX5_readNode_99 ?_
    refine zj_bipushN (v := 50) (n := 102) rfl dX5_readNode_100 (by decide) ?_
    refine zj_callV2 (n := 105) (a' := 0) (b' := 0) rfl dX5_readNode_102 zm_X5_84 (by decide) (by decide) rfl (Nat.le_of_ble_eq_true rfl) (Nat.le_of_ble_eq_true rfl) (Nat.le_of_ble_eq_true rfl) (Nat.le_of_ble_eq_true rfl) (jX5_takeNumber hP9 (by decide) (by decide) ?_)
    intro M10 x10 hb10 hG10 hP10 hx10
    have hF10 : zC9 M M10 := hF9.tr (zC9.of hG10)
    have hR10 := hR9.kf hG10
    change zPs M10 n B (nd10 B n v s) at hP10
    refine zj_istore6 (n := 107) rfl dX5_readNode_105 rfl (Nat.le_of_ble_eq_true rfl) ?_
    refine zj_aload0 (n := 108) rfl dX5_readNode_107 ?_
    refine zj_callV0 (n := 111) (a' := 0) (b' := 0) rfl dX5_readNode_108 zm_X5_113 (by decide) (by decide) rfl (Nat.le_of_ble_eq_true rfl) (Nat.le_of_ble_eq_true rfl) (Nat.le_of_ble_eq_true rfl) (Nat.le_of_ble_eq_true rfl) (jX5_takeEnd hP10 ?_)
    intro M11 hG11 hP11
    have hF11 : zC9 M M11 := hF10.tr (zC9.of hG11)
    have hR11 := hR10.kf hG11
    refine zj_aload0 (n := 112) rfl dX5_readNode_111 ?_
    refine zj_getiN (e := (sEnd B n (nd10 B n v s)).1) (n := 115) rfl dX5_readNode_112 zf_X5_25 rfl (by decide) (by decide) hP11.2.1 ?_
    refine zj_ifN_ne (n := 118) (tgt := 190) rfl dX5_readNode_115 (by decide) (by have := hP11.2.2.1; omega) (fun c115 => ?_) (fun c115 => ?_)
    · exact zj_return dX5_readNode_190 rfl (h M11 hF11 hP11 (hR11.rz hp) (fun q => absurd q (by omega)))
    · refine zj_aload0 (n := 119) rfl dX5_readNode_118 ?_
      refine zj_getr (n := 122) (q := 9) rfl dX5_readNode_119 zf_X5_12 rfl (by decide) (by decide) rfl ?_
      refine zj_getr (n := 125) (q := 10) rfl dX5_readNode_122 zf_X5_125 rfl (by decide) (by decide) rfl ?_
      refine zj_iload1 (n := 126) rfl dX5_readNode_125 ?_
      refine zj_callV1 (n := 129) (a' := 0) (b' := 0) rfl dX5_readNode_126 zm_X5_150 (by decide) (by decide) rfl (Nat.le_of_ble_eq_true rfl) (Nat.le_of_ble_eq_true rfl) (Nat.le_of_ble_eq_true rfl) (Nat.le_of_ble_eq_true rfl) (jX7_addNamed (x := nI x1) hR11.n.1 (by have := (nd10_ok (sEnd_ok c115).1).2.1; omega) ?_)
      intro M10 g1 g2 hT10 g4 g5 g6
      have hok : (nd10 B n v s).1 = 0 := (sEnd_ok c115).1
      obtain ⟨-, hc16, -, -, -, -, -, -, -, -⟩ := nd10_ok hok
      have q9 := (sNum_ok hok).1
      have q8 := (sTake_ok q9).1
      have q7 := (sNum_ok q8).1
      have q6 := (sTake_ok q7).1
      have q5 := (sNum_ok q6).1
      have q4 := (sTake_ok q5).1
      have q4n := ((sErr_ok (by decide)).mp (sNext_ok.mp q4)).1
      have q2 := (sTake_ok (sNumE_ok q4n).1).1
      have r1 := hx2 q2
      have r3 := hx3 (sNext_ok.mpr q4n)
      have r6 := hx6 q6
      have r8 := hx8 q8
      have r10 := hx10 hok
      have hv := vNode_r (B := B) (n := n) (v := v) (s := s) hc16
      refine zj_istore7 (n := 131) rfl dX5_readNode_129 rfl (Nat.le_of_ble_eq_true rfl) ?_
      refine zj_aload0 (n := 132) rfl dX5_readNode_131 ?_
      refine zj_getr (n := 135) (q := 9) rfl dX5_readNode_132 zf_X5_12 rfl (by decide) (by decide) rfl ?_
      refine zj_getr (n := 138) (q := 10) rfl dX5_readNode_135 zf_X5_125 rfl (by decide) (by decide) rfl ?_
      refine zj_iload7 (n := 140) rfl dX5_readNode_138 ?_
      refine zj_iconstN_0 (n := 141) rfl dX5_readNode_140 ?_
      refine zj_iload3 (n := 142) rfl dX5_readNode_141 ?_
      refine zj_callV3 (n := 145) (a' := 0) (b' := 0) rfl dX5_readNode_142 zm_X5_154 (by decide) (by decide) rfl (Nat.le_of_ble_eq_true rfl) (Nat.le_of_ble_eq_true rfl) (Nat.le_of_ble_eq_true rfl) (Nat.le_of_ble_eq_true rfl) (jT_set hT10 (show v 6 < v 6 + 1 by omega) (by decide) ?_)
      refine zj_aload0 (n := 146) rfl dX5_readNode_145 ?_
      refine zj_getr (n := 149) (q := 9) rfl dX5_readNode_146 zf_X5_12 rfl (by decide) (by decide) rfl ?_
      refine zj_getr (n := 152) (q := 10) rfl dX5_readNode_149 zf_X5_125 rfl (by decide) (by decide) rfl ?_
      refine zj_iload7 (n := 154) rfl dX5_readNode_152 ?_
      refine zj_iconstN_1 (n := 155) rfl dX5_readNode_154 ?_
      refine zj_iload4 (n := 157) rfl dX5_readNode_155 ?_
      refine zj_callV3 (n := 160) (a' := 0) (b' := 0) rfl dX5_readNode_157 zm_X5_154 (by decide) (by decide) rfl (Nat.le_of_ble_eq_true rfl) (Nat.le_of_ble_eq_true rfl) (Nat.le_of_ble_eq_true rfl) (Nat.le_of_ble_eq_true rfl) (jT_set (hT10.cg (by dsimp only; rw [zU_off (by decide)])) (show v 6 < v 6 + 1 by omega) (by decide) ?_)
      refine zj_aload0 (n := 161) rfl dX5_readNode_160 ?_
      refine zj_getr (n := 164) (q := 9) rfl dX5_readNode_161 zf_X5_12 rfl (by decide) (by decide) rfl ?_
      refine zj_getr (n := 167) (q := 10) rfl dX5_readNode_164 zf_X5_125 rfl (by decide) (by decide) rfl ?_
      refine zj_iload7 (n := 169) rfl dX5_readNode_167 ?_
      refine zj_iconstN_2 (n := 170) rfl dX5_readNode_169 ?_
      refine zj_iload5 (n := 172) rfl dX5_readNode_170 ?_
      refine zj_callV3 (n := 175) (a' := 0) (b' := 0) rfl dX5_readNode_172 zm_X5_154 (by decide) (by decide) rfl (Nat.le_of_ble_eq_true rfl) (Nat.le_of_ble_eq_true rfl) (Nat.le_of_ble_eq_true rfl) (Nat.le_of_ble_eq_true rfl) (jT_set (hT10.cg (by dsimp only; rw [zU_off (by decide), zU_off (by decide)])) (show v 6 < v 6 + 1 by omega) (by decide) ?_)
      refine zj_aload0 (n := 176) rfl dX5_readNode_175 ?_
      refine zj_getr (n := 179) (q := 9) rfl dX5_readNode_176 zf_X5_12 rfl (by decide) (by decide) rfl ?_
      refine zj_getr (n := 182) (q := 10) rfl dX5_readNode_179 zf_X5_125 rfl (by decide) (by decide) rfl ?_
      refine zj_iload7 (n := 184) rfl dX5_readNode_182 ?_
      refine zj_iconstN_3 (n := 185) rfl dX5_readNode_184 ?_
      refine zj_iload6 (n := 187) rfl dX5_readNode_185 ?_
      refine zj_callV3 (n := 190) (a' := 0) (b' := 0) rfl dX5_readNode_187 zm_X5_154 (by decide) (by decide) rfl (Nat.le_of_ble_eq_true rfl) (Nat.le_of_ble_eq_true rfl) (Nat.le_of_ble_eq_true rfl) (Nat.le_of_ble_eq_true rfl) (jT_set (hT10.cg (by dsimp only; rw [zU_off (by decide), zU_off (by decide), zU_off (by decide)])) (show v 6 < v 6 + 1 by omega) (by decide) ?_)
      refine zj_return dX5_readNode_190 rfl ?_
      have hM : ∀ a, a ≠ 11 → (zU (zU (zU (zU M10.1 11 (v 6 * 8 + 0) (nI x3)) 11 (v 6 * 8 + 1) (nI x6)) 11 (v 6 * 8 + 2) (nI x8)) 11 (v 6 * 8 + 3) (nI x10)) a = M10.1 a := fun a ha => by rw [zU_off ha, zU_off ha, zU_off ha, zU_off ha]
      have hR12 : zRg (zU (zU (zU (zU M10.1 11 (v 6 * 8 + 0) (nI x3)) 11 (v 6 * 8 + 1) (nI x6)) 11 (v 6 * 8 + 2) (nI x8)) 11 (v 6 * 8 + 3) (nI x10), M10.2) 9 (vNode B n v s) := by
        refine hR11.addN hW hc16 (fun a b1 b2 b3 b4 => (hM a b4).trans (g1 a b3 b4)) (hT10.cg (hM 10 (by decide))) (fun j hj => ?_) (fun c hc => ?_) ?_ ?_ ?_ ?_ vNode_6 (fun j b1 b2 => vNode_off b2 b1)
        · dsimp only
          rw [zU_nj (by omega), zU_nj (by omega), zU_nj (by omega), zU_nj (by omega)]
          exact g4 j hj
        · obtain ⟨v0, v1, v2, v3, -⟩ := hv
          dsimp only
          rcases (show c = 0 ∨ c = 1 ∨ c = 2 ∨ c = 3 by omega) with rfl | rfl | rfl | rfl
          · rw [zU_nj (by omega), zU_nj (by omega), zU_nj (by omega), zU_eq, v0, r3]
          · rw [zU_nj (by omega), zU_nj (by omega), zU_eq, v1, r6]
          · rw [zU_nj (by omega), zU_eq, v2, r8]
          · rw [zU_eq, v3, r10]
        · dsimp only
          rw [zU_nj (by omega), zU_nj (by omega), zU_nj (by omega), zU_nj (by omega)]
          exact g5 4 (by decide)
        · dsimp only
          rw [zU_nj (by omega), zU_nj (by omega), zU_nj (by omega), zU_nj (by omega), hv.2.2.2.2.1, hp.2.2.1 (10 + 12 * v 6 + 4) (by omega) (by omega)]
          exact g5 5 (by decide)
        · dsimp only
          rw [zU_nj (by omega), zU_nj (by omega), zU_nj (by omega), zU_nj (by omega), hv.2.2.2.2.2.1, hp.2.2.1 (10 + 12 * v 6 + 5) (by omega) (by omega)]
          exact g5 6 (by decide)
        · dsimp only
          rw [zU_nj (by omega), zU_nj (by omega), zU_nj (by omega), zU_nj (by omega)]
          have hb := (nd10_ok hok).2.2.1
          have hnm : vname (vNode B n v s) (10 + 12 * v 6 + 6) = vnm B (tS B n (nd1 B n v s).2.2) (tE B n (nd1 B n v s).2.2) := vname_let hb hv.2.2.2.2.2.2
          rw [hnm, ← r1]
          exact g6
      exact h _ (hF11.tr ⟨fun a b1 b2 => (hM a (by omega)).trans (g1 a (by omega) (by omega)), g2⟩) (hP11.cg ((hM 104 (by decide)).trans (g1 104 (by decide) (by decide))) ((hM 100 (by decide)).trans (g1 100 (by decide) (by decide))) ((hM 101 (by decide)).trans (g1 101 (by decide) (by decide)))) (hR12.rz (hp.node hok)) (fun _ => hR12)
  · refine zj_aload0 (n := 53) rfl dX5_readNode_52 ?_
    refine zj_iconstN_3 (n := 54) rfl dX5_readNode_53 ?_
    refine zj_iload2 (n := 55) rfl dX5_readNode_54 ?_
    refine zj_callV2 (n := 58) (a' := 0) (b' := 0) rfl dX5_readNode_55 zm_X5_69 (by decide) (by decide) rfl (Nat.le_of_ble_eq_true rfl) (Nat.le_of_ble_eq_true rfl) (Nat.le_of_ble_eq_true rfl) (Nat.le_of_ble_eq_true rfl) (jX5_refuse hP3 (by decide) ?_)
    intro M9 hG9 hP9
    refine zj_gen (P := fun M4 => zC9 M M4 ∧ zRg M4 9 v ∧ zPs M4 n B (nd4 B n v s)) ⟨(hF3.tr (zC9.of (zK23 hG9))), (hR3.kf hG9), by
      have e9 : sDup (tS B n (nd3 B n v s).2.2) true (sNext B n (sNumE B n 0 9999 (nd3 B n v s))) = sNext B n (sErr 3 B n true (sNumE B n 0 9999 (nd3 B n v s))) := sDup_next (fun q => by rw [sNumE_id q])
      unfold nd4 nd4e
      rw [← sErr_cong (d := true) (fun q => by rw [← htk q, c49]; rfl), ← e9]
      exact (by
        by_cases w : (nd3 B n v s).1 = 0
        · have r9 := he2 w
          rw [← r9]
          exact hP9
        · have w2 : (sNum B n 0 9999 (nd3 B n v s)).1 ≠ 0 := fun q => w (sNum_ok q).1
          show zPs M9 n B (sRef 3 _ (sNum B n 0 9999 (nd3 B n v s)))
          rw [sRef_no w2] at hP9 ⊢
          exact hP9)⟩ ?_
    intro M4 h4
    obtain ⟨hF4, hR4, hP4⟩ := h4
    refine zj_aload0 (n := 59) rfl dX5_readNode_58 ?_
    refine zj_getkw (i := 10) (n := 62) rfl dX5_readNode_59 (by decide) rfl zs_X5_141 ?_
    refine zj_callV1 (n := 65) (a' := 0) (b' := 0) rfl dX5_readNode_62 zm_X5_76 (by decide) (by decide) rfl (Nat.le_of_ble_eq_true rfl) (Nat.le_of_ble_eq_true rfl) (Nat.le_of_ble_eq_true rfl) (Nat.le_of_ble_eq_true rfl) (jX5_take hP4 (by decide) ?_)
    intro M5 hG5 hP5
    have hF5 : zC9 M M5 := hF4.tr (zC9.of hG5)
    have hR5 := hR4.kf hG5
    change zPs M5 n B (nd5 B n v s) at hP5
    refine zj_aload0 (n := 66) rfl dX5_readNode_65 ?_
    refine zj_iconstN_0 (n := 67) rfl dX5_readNode_66 ?_
    refine zj_bipushN (v := 9) (n := 69) rfl dX5_readNode_67 (by decide) ?_
    refine zj_callV2 (n := 72) (a' := 0) (b' := 0) rfl dX5_readNode_69 zm_X5_84 (by decide) (by decide) rfl (Nat.le_of_ble_eq_true rfl) (Nat.le_of_ble_eq_true rfl) (Nat.le_of_ble_eq_true rfl) (Nat.le_of_ble_eq_true rfl) (jX5_takeNumber hP5 (by decide) (by decide) ?_)
    intro M6 x6 hb6 hG6 hP6 hx6
    have hF6 : zC9 M M6 := hF5.tr (zC9.of hG6)
    have hR6 := hR5.kf hG6
    change zPs M6 n B (nd6 B n v s) at hP6
    refine zj_istore4 (n := 74) rfl dX5_readNode_72 rfl (Nat.le_of_ble_eq_true rfl) ?_
    refine zj_aload0 (n := 75) rfl dX5_readNode_74 ?_
    refine zj_getkw (i := 11) (n := 78) rfl dX5_readNode_75 (by decide) rfl zs_X5_144 ?_
    refine zj_callV1 (n := 81) (a' := 0) (b' := 0) rfl dX5_readNode_78 zm_X5_76 (by decide) (by decide) rfl (Nat.le_of_ble_eq_true rfl) (Nat.le_of_ble_eq_true rfl) (Nat.le_of_ble_eq_true rfl) (Nat.le_of_ble_eq_true rfl) (jX5_take hP6 (by decide) ?_)
    intro M7 hG7 hP7
    have hF7 : zC9 M M7 := hF6.tr (zC9.of hG7)
    have hR7 := hR6.kf hG7
    change zPs M7 n B (nd7 B n v s) at hP7
    refine zj_aload0 (n := 82) rfl dX5_readNode_81 ?_
    refine zj_iconstN_0 (n := 83) rfl dX5_readNode_82 ?_
    refine zj_sipushN (v := 999) (n := 86) rfl dX5_readNode_83 (by decide) ?_
    refine zj_callV2 (n := 89) (a' := 0) (b' := 0) rfl dX5_readNode_86 zm_X5_84 (by decide) (by decide) rfl (Nat.le_of_ble_eq_true rfl) (Nat.le_of_ble_eq_true rfl) (Nat.le_of_ble_eq_true rfl) (Nat.le_of_ble_eq_true rfl) (jX5_takeNumber hP7 (by decide) (by decide) ?_)
    intro M8 x8 hb8 hG8 hP8 hx8
    have hF8 : zC9 M M8 := hF7.tr (zC9.of hG8)
    have hR8 := hR7.kf hG8
    change zPs M8 n B (nd8 B n v s) at hP8
    refine zj_istore5 (n := 91) rfl dX5_readNode_89 rfl (Nat.le_of_ble_eq_true rfl) ?_
    refine zj_aload0 (n := 92) rfl dX5_readNode_91 ?_
    refine zj_getkw (i := 12) (n := 95) rfl dX5_readNode_92 (by decide) rfl zs_X5_147 ?_
    refine zj_callV1 (n := 98) (a' := 0) (b' := 0) rfl dX5_readNode_95 zm_X5_76 (by decide) (by decide) rfl (Nat.le_of_ble_eq_true rfl) (Nat.le_of_ble_eq_true rfl) (Nat.le_of_ble_eq_true rfl) (Nat.le_of_ble_eq_true rfl) (jX5_take hP8 (by decide) ?_)
    intro M9 hG9 hP9
    have hF9 : zC9 M M9 := hF8.tr (zC9.of hG9)
    have hR9 := hR8.kf hG9
    change zPs M9 n B (nd9 B n v s) at hP9
    refine zj_aload0 (n := 99) rfl dX5_readNode_98 ?_
    refine zj_iconstN_1 (n := 100) rfl dX5_readNode_99 ?_
    refine zj_bipushN (v := 50) (n := 102) rfl dX5_readNode_100 (by decide) ?_
    refine zj_callV2 (n := 105) (a' := 0) (b' := 0) rfl dX5_readNode_102 zm_X5_84 (by decide) (by decide) rfl (Nat.le_of_ble_eq_true rfl) (Nat.le_of_ble_eq_true rfl) (Nat.le_of_ble_eq_true rfl) (Nat.le_of_ble_eq_true rfl) (jX5_takeNumber hP9 (by decide) (by decide) ?_)
    intro M10 x10 hb10 hG10 hP10 hx10
    have hF10 : zC9 M M10 := hF9.tr (zC9.of hG10)
    have hR10 := hR9.kf hG10
    change zPs M10 n B (nd10 B n v s) at hP10
    refine zj_istore6 (n := 107) rfl dX5_readNode_105 rfl (Nat.le_of_ble_eq_true rfl) ?_
    refine zj_aload0 (n := 108) rfl dX5_readNode_107 ?_
    refine zj_callV0 (n := 111) (a' := 0) (b' := 0) rfl dX5_readNode_108 zm_X5_113 (by decide) (by decide) rfl (Nat.le_of_ble_eq_true rfl) (Nat.le_of_ble_eq_true rfl) (Nat.le_of_ble_eq_true rfl) (Nat.le_of_ble_eq_true rfl) (jX5_takeEnd hP10 ?_)
    intro M11 hG11 hP11
    have hF11 : zC9 M M11 := hF10.tr (zC9.of hG11)
    have hR11 := hR10.kf hG11
    refine zj_aload0 (n := 112) rfl dX5_readNode_111 ?_
    refine zj_getiN (e := (sEnd B n (nd10 B n v s)).1) (n := 115) rfl dX5_readNode_112 zf_X5_25 rfl (by decide) (by decide) hP11.2.1 ?_
    refine zj_ifN_ne (n := 118) (tgt := 190) rfl dX5_readNode_115 (by decide) (by have := hP11.2.2.1; omega) (fun c115 => ?_) (fun c115 => ?_)
    · exact zj_return dX5_readNode_190 rfl (h M11 hF11 hP11 (hR11.rz hp) (fun q => absurd q (by omega)))
    · refine zj_aload0 (n := 119) rfl dX5_readNode_118 ?_
      refine zj_getr (n := 122) (q := 9) rfl dX5_readNode_119 zf_X5_12 rfl (by decide) (by decide) rfl ?_
      refine zj_getr (n := 125) (q := 10) rfl dX5_readNode_122 zf_X5_125 rfl (by decide) (by decide) rfl ?_
      refine zj_iload1 (n := 126) rfl dX5_readNode_125 ?_
      refine zj_callV1 (n := 129) (a' := 0) (b' := 0) rfl dX5_readNode_126 zm_X5_150 (by decide) (by decide) rfl (Nat.le_of_ble_eq_true rfl) (Nat.le_of_ble_eq_true rfl) (Nat.le_of_ble_eq_true rfl) (Nat.le_of_ble_eq_true rfl) (jX7_addNamed (x := nI x1) hR11.n.1 (by have := (nd10_ok (sEnd_ok c115).1).2.1; omega) ?_)
      intro M10 g1 g2 hT10 g4 g5 g6
      have hok : (nd10 B n v s).1 = 0 := (sEnd_ok c115).1
      obtain ⟨-, hc16, -, -, -, -, -, -, -, -⟩ := nd10_ok hok
      have q9 := (sNum_ok hok).1
      have q8 := (sTake_ok q9).1
      have q7 := (sNum_ok q8).1
      have q6 := (sTake_ok q7).1
      have q5 := (sNum_ok q6).1
      have q4 := (sTake_ok q5).1
      have q4n := ((sErr_ok (by decide)).mp (sNext_ok.mp q4)).1
      have q2 := (sTake_ok (sNumE_ok q4n).1).1
      have r1 := hx2 q2
      have r3 := hx3 (sNext_ok.mpr q4n)
      have r6 := hx6 q6
      have r8 := hx8 q8
      have r10 := hx10 hok
      have hv := vNode_r (B := B) (n := n) (v := v) (s := s) hc16
      refine zj_istore7 (n := 131) rfl dX5_readNode_129 rfl (Nat.le_of_ble_eq_true rfl) ?_
      refine zj_aload0 (n := 132) rfl dX5_readNode_131 ?_
      refine zj_getr (n := 135) (q := 9) rfl dX5_readNode_132 zf_X5_12 rfl (by decide) (by decide) rfl ?_
      refine zj_getr (n := 138) (q := 10) rfl dX5_readNode_135 zf_X5_125 rfl (by decide) (by decide) rfl ?_
      refine zj_iload7 (n := 140) rfl dX5_readNode_138 ?_
      refine zj_iconstN_0 (n := 141) rfl dX5_readNode_140 ?_
      refine zj_iload3 (n := 142) rfl dX5_readNode_141 ?_
      refine zj_callV3 (n := 145) (a' := 0) (b' := 0) rfl dX5_readNode_142 zm_X5_154 (by decide) (by decide) rfl (Nat.le_of_ble_eq_true rfl) (Nat.le_of_ble_eq_true rfl) (Nat.le_of_ble_eq_true rfl) (Nat.le_of_ble_eq_true rfl) (jT_set hT10 (show v 6 < v 6 + 1 by omega) (by decide) ?_)
      refine zj_aload0 (n := 146) rfl dX5_readNode_145 ?_
      refine zj_getr (n := 149) (q := 9) rfl dX5_readNode_146 zf_X5_12 rfl (by decide) (by decide) rfl ?_
      refine zj_getr (n := 152) (q := 10) rfl dX5_readNode_149 zf_X5_125 rfl (by decide) (by decide) rfl ?_
      refine zj_iload7 (n := 154) rfl dX5_readNode_152 ?_
      refine zj_iconstN_1 (n := 155) rfl dX5_readNode_154 ?_
      refine zj_iload4 (n := 157) rfl dX5_readNode_155 ?_
      refine zj_callV3 (n := 160) (a' := 0) (b' := 0) rfl dX5_readNode_157 zm_X5_154 (by decide) (by decide) rfl (Nat.le_of_ble_eq_true rfl) (Nat.le_of_ble_eq_true rfl) (Nat.le_of_ble_eq_true rfl) (Nat.le_of_ble_eq_true rfl) (jT_set (hT10.cg (by dsimp only; rw [zU_off (by decide)])) (show v 6 < v 6 + 1 by omega) (by decide) ?_)
      refine zj_aload0 (n := 161) rfl dX5_readNode_160 ?_
      refine zj_getr (n := 164) (q := 9) rfl dX5_readNode_161 zf_X5_12 rfl (by decide) (by decide) rfl ?_
      refine zj_getr (n := 167) (q := 10) rfl dX5_readNode_164 zf_X5_125 rfl (by decide) (by decide) rfl ?_
      refine zj_iload7 (n := 169) rfl dX5_readNode_167 ?_
      refine zj_iconstN_2 (n := 170) rfl dX5_readNode_169 ?_
      refine zj_iload5 (n := 172) rfl dX5_readNode_170 ?_
      refine zj_callV3 (n := 175) (a' := 0) (b' := 0) rfl dX5_readNode_172 zm_X5_154 (by decide) (by decide) rfl (Nat.le_of_ble_eq_true rfl) (Nat.le_of_ble_eq_true rfl) (Nat.le_of_ble_eq_true rfl) (Nat.le_of_ble_eq_true rfl) (jT_set (hT10.cg (by dsimp only; rw [zU_off (by decide), zU_off (by decide)])) (show v 6 < v 6 + 1 by omega) (by decide) ?_)
      refine zj_aload0 (n := 176) rfl dX5_readNode_175 ?_
      refine zj_getr (n := 179) (q := 9) rfl dX5_readNode_176 zf_X5_12 rfl (by decide) (by decide) rfl ?_
      refine zj_getr (n := 182) (q := 10) rfl dX5_readNode_179 zf_X5_125 rfl (by decide) (by decide) rfl ?_
      refine zj_iload7 (n := 184) rfl dX5_readNode_182 ?_
      refine zj_iconstN_3 (n := 185) rfl dX5_readNode_184 ?_
      refine zj_iload6 (n := 187) rfl dX5_readNode_185 ?_
      refine zj_callV3 (n := 190) (a' := 0) (b' := 0) rfl dX5_readNode_187 zm_X5_154 (by decide) (by decide) rfl (Nat.le_of_ble_eq_true rfl) (Nat.le_of_ble_eq_true rfl) (Nat.le_of_ble_eq_true rfl) (Nat.le_of_ble_eq_true rfl) (jT_set (hT10.cg (by dsimp only; rw [zU_off (by decide), zU_off (by decide), zU_off (by decide)])) (show v 6 < v 6 + 1 by omega) (by decide) ?_)
      refine zj_return dX5_readNode_190 rfl ?_
      have hM : ∀ a, a ≠ 11 → (zU (zU (zU (zU M10.1 11 (v 6 * 8 + 0) (nI x3)) 11 (v 6 * 8 + 1) (nI x6)) 11 (v 6 * 8 + 2) (nI x8)) 11 (v 6 * 8 + 3) (nI x10)) a = M10.1 a := fun a ha => by rw [zU_off ha, zU_off ha, zU_off ha, zU_off ha]
      have hR12 : zRg (zU (zU (zU (zU M10.1 11 (v 6 * 8 + 0) (nI x3)) 11 (v 6 * 8 + 1) (nI x6)) 11 (v 6 * 8 + 2) (nI x8)) 11 (v 6 * 8 + 3) (nI x10), M10.2) 9 (vNode B n v s) := by
        refine hR11.addN hW hc16 (fun a b1 b2 b3 b4 => (hM a b4).trans (g1 a b3 b4)) (hT10.cg (hM 10 (by decide))) (fun j hj => ?_) (fun c hc => ?_) ?_ ?_ ?_ ?_ vNode_6 (fun j b1 b2 => vNode_off b2 b1)
        · dsimp only
          rw [zU_nj (by omega), zU_nj (by omega), zU_nj (by omega), zU_nj (by omega)]
          exact g4 j hj
        · obtain ⟨v0, v1, v2, v3, -⟩ := hv
          dsimp only
          rcases (show c = 0 ∨ c = 1 ∨ c = 2 ∨ c = 3 by omega) with rfl | rfl | rfl | rfl
          · rw [zU_nj (by omega), zU_nj (by omega), zU_nj (by omega), zU_eq, v0, r3]
          · rw [zU_nj (by omega), zU_nj (by omega), zU_eq, v1, r6]
          · rw [zU_nj (by omega), zU_eq, v2, r8]
          · rw [zU_eq, v3, r10]
        · dsimp only
          rw [zU_nj (by omega), zU_nj (by omega), zU_nj (by omega), zU_nj (by omega)]
          exact g5 4 (by decide)
        · dsimp only
          rw [zU_nj (by omega), zU_nj (by omega), zU_nj (by omega), zU_nj (by omega), hv.2.2.2.2.1, hp.2.2.1 (10 + 12 * v 6 + 4) (by omega) (by omega)]
          exact g5 5 (by decide)
        · dsimp only
          rw [zU_nj (by omega), zU_nj (by omega), zU_nj (by omega), zU_nj (by omega), hv.2.2.2.2.2.1, hp.2.2.1 (10 + 12 * v 6 + 5) (by omega) (by omega)]
          exact g5 6 (by decide)
        · dsimp only
          rw [zU_nj (by omega), zU_nj (by omega), zU_nj (by omega), zU_nj (by omega)]
          have hb := (nd10_ok hok).2.2.1
          have hnm : vname (vNode B n v s) (10 + 12 * v 6 + 6) = vnm B (tS B n (nd1 B n v s).2.2) (tE B n (nd1 B n v s).2.2) := vname_let hb hv.2.2.2.2.2.2
          rw [hnm, ← r1]
          exact g6
      exact h _ (hF11.tr ⟨fun a b1 b2 => (hM a (by omega)).trans (g1 a (by omega) (by omega)), g2⟩) (hP11.cg ((hM 104 (by decide)).trans (g1 104 (by decide) (by decide))) ((hM 100 (by decide)).trans (g1 100 (by decide) (by decide))) ((hM 101 (by decide)).trans (g1 101 (by decide) (by decide)))) (hR12.rz (hp.node hok)) (fun _ => hR12)
theorem jX5_readTenant {n : Nat} {B : Nat → Nat} {s : zS} {v : zV} {Q : Option Value → zM → Prop} {X : String → zM → Prop} {M : zM} (hP : zPs M n B s) (hs : s.1 = 0) (hR : zRg M 9 v) (hp : zPv v) (hat : sAt B n s.2.2 13 = true) (h : ∀ M', zC9 M M' → zPs M' n B (sEnd B n (tn6 B n v s)) → zRz M' → ((sEnd B n (tn6 B n v s)).1 = 0 → zRg M' 9 (vTen B n v s)) → Q none M') : zJ yX5_readTenant cX5_readTenant 5 none rX5_readTenant Q X rX5_readTenant.cells rX5_readTenant.slots 0 (zEnt 5 [.ref 104]) [] M := by
  have hW := hp.1
  have hN := hp.2.1
  have h6 := hW.nN
  have h7 := hW.tN
  have h8 := hW.gN
  have hF0 : zC9 M M := zC9.rf
  have hn1400 := hP.n
  show zJ yX5_readTenant cX5_readTenant 5 none rX5_readTenant Q X 0 0 0 [some (.ref 104), none, none, none, none] [] M
  refine zj_aload0 (n := 1) rfl dX5_readTenant_0 ?_
  refine zj_getkw (i := 13) (n := 4) rfl dX5_readTenant_1 (by decide) rfl zs_X5_54 ?_
  refine zj_aload0 (n := 5) rfl dX5_readTenant_4 ?_
  refine zj_getr (n := 8) (q := 9) rfl dX5_readTenant_5 zf_X5_12 rfl (by decide) (by decide) rfl ?_
  refine zj_getr (n := 11) (q := 12) rfl dX5_readTenant_8 zf_X5_158 rfl (by decide) (by decide) rfl ?_
  refine zj_callV2 (n := 14) (a' := 0) (b' := 0) rfl dX5_readTenant_11 zm_X5_129 (by decide) (by decide) rfl (Nat.le_of_ble_eq_true rfl) (Nat.le_of_ble_eq_true rfl) (Nat.le_of_ble_eq_true rfl) (Nat.le_of_ble_eq_true rfl) (jX5_takeBeginning hP (by decide) hR.t.1 (by decide) (by decide) (by decide) ?_)
  intro M1 x1 dup hb1 hG1 hP1 hx1 hdup
  have hF1 : zC9 M M1 := hF0.tr (zC9.of hG1)
  have hR1 := hR.kf hG1
  have hfull : decide (v 7 = 6) = !decide (v 7 < 6) := by
    by_cases w : v 7 = 6
    · rw [decide_eq_true w, decide_eq_false (by omega)]; rfl
    · rw [decide_eq_false w, decide_eq_true (by omega)]; rfl
  have hat9 : s.1 = 0 → sAt B n s.2.2 13 = true := fun _ => hat
  rw [sTake_at hat9, hfull] at hx1
  rw [sBeg_is hat9, hfull] at hP1
  change zPs M1 n B (sNext B n (sErr 3 B n dup (sErr 1 B n (sBadN B n (tn1 B n v s).2.2) (tn1 B n v s)))) at hP1
  change (sNext B n (sErr 1 B n (sBadN B n (tn1 B n v s).2.2) (tn1 B n v s))).1 = 0 → x1 = vnm B (tS B n (tn1 B n v s).2.2) (tE B n (tn1 B n v s).2.2) at hx1
  have hd1 : (sErr 1 B n (sBadN B n (tn1 B n v s).2.2) (tn1 B n v s)).1 = 0 → dup = (kfind v 1 B (tS B n (tn1 B n v s).2.2) (tE B n (tn1 B n v s).2.2)).isSome := fun q => by
    rw [hdup, hx1 (sNext_ok.mpr q)]
    refine zfo_is (fun r hr => ?_)
    have hn1 := hN.at (kd := 1) (by decide) (show r < v (6 + 1) from hr)
    have hn2 := hn1.nlt
    have hn3 := vnm_lt B (tS B n (tn1 B n v s).2.2) (tE B n (tn1 B n v s).2.2)
    rw [show M.1 13 (r * 6 + (6 - 1)) = nI (vname v (202 + 11 * r + 5)) from hR.t.nm hr, show vname v (202 + 11 * r + 5) = vname v (kbase 1 r) from rfl]
    exact decide_eq_decide.mpr (nI_eq (by omega) (by omega))
  have hP2 : zPs M1 n B (tn2 B n v s) := by
    unfold tn2 tn2e
    rw [← sErr_cong hd1]
    exact hP1
  have hx2 : (tn2 B n v s).1 = 0 → x1 = vnm B (tS B n (tn1 B n v s).2.2) (tE B n (tn1 B n v s).2.2) := fun q => hx1 (by
    unfold tn2 tn2e at q
    exact sNext_ok.mpr ((sErr_ok (by decide)).mp (sNext_ok.mp q)).1)
  refine zj_istore1 (n := 15) rfl dX5_readTenant_14 rfl (Nat.le_of_ble_eq_true rfl) ?_
  refine zj_aload0 (n := 16) rfl dX5_readTenant_15 ?_
  refine zj_getkw (i := 14) (n := 19) rfl dX5_readTenant_16 (by decide) rfl zs_X5_161 ?_
  refine zj_callV1 (n := 22) (a' := 0) (b' := 0) rfl dX5_readTenant_19 zm_X5_76 (by decide) (by decide) rfl (Nat.le_of_ble_eq_true rfl) (Nat.le_of_ble_eq_true rfl) (Nat.le_of_ble_eq_true rfl) (Nat.le_of_ble_eq_true rfl) (jX5_take hP2 (by decide) ?_)
  intro M3 hG3 hP3
  have hF3 : zC9 M M3 := hF1.tr (zC9.of hG3)
  have hR3 := hR1.kf hG3
  change zPs M3 n B (tn3 B n v s) at hP3
  refine zj_aload0 (n := 23) rfl dX5_readTenant_22 ?_
  refine zj_iconstN_0 (n := 24) rfl dX5_readTenant_23 ?_
  refine zj_ldcN (v := 999999) (n := 26) rfl dX5_readTenant_24 zc_X5_164 ?_
  refine zj_callV2 (n := 29) (a' := 0) (b' := 0) rfl dX5_readTenant_26 zm_X5_84 (by decide) (by decide) rfl (Nat.le_of_ble_eq_true rfl) (Nat.le_of_ble_eq_true rfl) (Nat.le_of_ble_eq_true rfl) (Nat.le_of_ble_eq_true rfl) (jX5_takeNumber hP3 (by decide) (by decide) ?_)
  intro M4 x4 hb4 hG4 hP4 hx4
  have hF4 : zC9 M M4 := hF3.tr (zC9.of hG4)
  have hR4 := hR3.kf hG4
  change zPs M4 n B (tn4 B n v s) at hP4
  refine zj_istore2 (n := 30) rfl dX5_readTenant_29 rfl (Nat.le_of_ble_eq_true rfl) ?_
  refine zj_aload0 (n := 31) rfl dX5_readTenant_30 ?_
  refine zj_getkw (i := 15) (n := 34) rfl dX5_readTenant_31 (by decide) rfl zs_X5_165 ?_
  refine zj_callV1 (n := 37) (a' := 0) (b' := 0) rfl dX5_readTenant_34 zm_X5_76 (by decide) (by decide) rfl (Nat.le_of_ble_eq_true rfl) (Nat.le_of_ble_eq_true rfl) (Nat.le_of_ble_eq_true rfl) (Nat.le_of_ble_eq_true rfl) (jX5_take hP4 (by decide) ?_)
  intro M5 hG5 hP5
  have hF5 : zC9 M M5 := hF4.tr (zC9.of hG5)
  have hR5 := hR4.kf hG5
  change zPs M5 n B (tn5 B n v s) at hP5
  refine zj_aload0 (n := 38) rfl dX5_readTenant_37 ?_
  refine zj_iconstN_0 (n := 39) rfl dX5_readTenant_38 ?_
  refine zj_ldcN (v := 999999) (n := 41) rfl dX5_readTenant_39 zc_X5_164 ?_
  refine zj_callV2 (n := 44) (a' := 0) (b' := 0) rfl dX5_readTenant_41 zm_X5_84 (by decide) (by decide) rfl (Nat.le_of_ble_eq_true rfl) (Nat.le_of_ble_eq_true rfl) (Nat.le_of_ble_eq_true rfl) (Nat.le_of_ble_eq_true rfl) (jX5_takeNumber hP5 (by decide) (by decide) ?_)
  intro M6 x6 hb6 hG6 hP6 hx6
  have hF6 : zC9 M M6 := hF5.tr (zC9.of hG6)
  have hR6 := hR5.kf hG6
  change zPs M6 n B (tn6 B n v s) at hP6
  refine zj_istore3 (n := 45) rfl dX5_readTenant_44 rfl (Nat.le_of_ble_eq_true rfl) ?_
  refine zj_aload0 (n := 46) rfl dX5_readTenant_45 ?_
  refine zj_callV0 (n := 49) (a' := 0) (b' := 0) rfl dX5_readTenant_46 zm_X5_113 (by decide) (by decide) rfl (Nat.le_of_ble_eq_true rfl) (Nat.le_of_ble_eq_true rfl) (Nat.le_of_ble_eq_true rfl) (Nat.le_of_ble_eq_true rfl) (jX5_takeEnd hP6 ?_)
  intro M11 hG11 hP11
  have hF11 : zC9 M M11 := hF6.tr (zC9.of hG11)
  have hR11 := hR6.kf hG11
  refine zj_aload0 (n := 50) rfl dX5_readTenant_49 ?_
  refine zj_getiN (e := (sEnd B n (tn6 B n v s)).1) (n := 53) rfl dX5_readTenant_50 zf_X5_25 rfl (by decide) (by decide) hP11.2.1 ?_
  refine zj_ifN_ne (n := 56) (tgt := 97) rfl dX5_readTenant_53 (by decide) (by have := hP11.2.2.1; omega) (fun c53 => ?_) (fun c53 => ?_)
  · exact zj_return dX5_readTenant_97 rfl (h M11 hF11 hP11 (hR11.rz hp) (fun q => absurd q (by omega)))
  · refine zj_aload0 (n := 57) rfl dX5_readTenant_56 ?_
    refine zj_getr (n := 60) (q := 9) rfl dX5_readTenant_57 zf_X5_12 rfl (by decide) (by decide) rfl ?_
    refine zj_getr (n := 63) (q := 12) rfl dX5_readTenant_60 zf_X5_158 rfl (by decide) (by decide) rfl ?_
    refine zj_iload1 (n := 64) rfl dX5_readTenant_63 ?_
    refine zj_callV1 (n := 67) (a' := 0) (b' := 0) rfl dX5_readTenant_64 zm_X5_150 (by decide) (by decide) rfl (Nat.le_of_ble_eq_true rfl) (Nat.le_of_ble_eq_true rfl) (Nat.le_of_ble_eq_true rfl) (Nat.le_of_ble_eq_true rfl) (jX7_addNamed (x := nI x1) hR11.t.1 (by have := (tn6_ok (sEnd_ok c53).1).2.1; omega) ?_)
    intro M10 g1 g2 hT10 g4 g5 g6
    have hok : (tn6 B n v s).1 = 0 := (sEnd_ok c53).1
    obtain ⟨-, hc16, -⟩ := tn6_ok hok
    have q5 := (sNum_ok hok).1
    have q4 := (sTake_ok q5).1
    have q3 := (sNum_ok q4).1
    have q2 := (sTake_ok q3).1
    have r1 := hx2 q2
    have r4 := hx4 q4
    have r6 := hx6 hok
    have hv := vTen_r (B := B) (n := n) (v := v) (s := s) hc16
    refine zj_istore4 (n := 69) rfl dX5_readTenant_67 rfl (Nat.le_of_ble_eq_true rfl) ?_
    refine zj_aload0 (n := 70) rfl dX5_readTenant_69 ?_
    refine zj_getr (n := 73) (q := 9) rfl dX5_readTenant_70 zf_X5_12 rfl (by decide) (by decide) rfl ?_
    refine zj_getr (n := 76) (q := 12) rfl dX5_readTenant_73 zf_X5_158 rfl (by decide) (by decide) rfl ?_
    refine zj_iload4 (n := 78) rfl dX5_readTenant_76 ?_
    refine zj_iconstN_0 (n := 79) rfl dX5_readTenant_78 ?_
    refine zj_iload2 (n := 80) rfl dX5_readTenant_79 ?_
    refine zj_callV3 (n := 83) (a' := 0) (b' := 0) rfl dX5_readTenant_80 zm_X5_154 (by decide) (by decide) rfl (Nat.le_of_ble_eq_true rfl) (Nat.le_of_ble_eq_true rfl) (Nat.le_of_ble_eq_true rfl) (Nat.le_of_ble_eq_true rfl) (jT_set hT10 (show v 7 < v 7 + 1 by omega) (by decide) ?_)
    refine zj_aload0 (n := 84) rfl dX5_readTenant_83 ?_
    refine zj_getr (n := 87) (q := 9) rfl dX5_readTenant_84 zf_X5_12 rfl (by decide) (by decide) rfl ?_
    refine zj_getr (n := 90) (q := 12) rfl dX5_readTenant_87 zf_X5_158 rfl (by decide) (by decide) rfl ?_
    refine zj_iload4 (n := 92) rfl dX5_readTenant_90 ?_
    refine zj_iconstN_1 (n := 93) rfl dX5_readTenant_92 ?_
    refine zj_iload3 (n := 94) rfl dX5_readTenant_93 ?_
    refine zj_callV3 (n := 97) (a' := 0) (b' := 0) rfl dX5_readTenant_94 zm_X5_154 (by decide) (by decide) rfl (Nat.le_of_ble_eq_true rfl) (Nat.le_of_ble_eq_true rfl) (Nat.le_of_ble_eq_true rfl) (Nat.le_of_ble_eq_true rfl) (jT_set (hT10.cg (by dsimp only; rw [zU_off (by decide)])) (show v 7 < v 7 + 1 by omega) (by decide) ?_)
    refine zj_return dX5_readTenant_97 rfl ?_
    have hM : ∀ a, a ≠ 13 → (zU (zU M10.1 13 (v 7 * 6 + 0) (nI x4)) 13 (v 7 * 6 + 1) (nI x6)) a = M10.1 a := fun a ha => by rw [zU_off ha, zU_off ha]
    have hR12 : zRg (zU (zU M10.1 13 (v 7 * 6 + 0) (nI x4)) 13 (v 7 * 6 + 1) (nI x6), M10.2) 9 (vTen B n v s) := by
      refine hR11.addT hW hc16 (fun a b1 b2 b3 b4 => (hM a b4).trans (g1 a b3 b4)) (hT10.cg (hM 12 (by decide))) (fun j hj => ?_) (fun c hc => ?_) ?_ vTen_7 (fun j b1 b2 => vTen_off b2 b1)
      · dsimp only
        rw [zU_nj (by omega), zU_nj (by omega)]
        exact g4 j hj
      · obtain ⟨v0, v1, v2, v3, v4, -⟩ := hv
        dsimp only
        rcases (show c = 0 ∨ c = 1 ∨ c = 2 ∨ c = 3 ∨ c = 4 by omega) with rfl | rfl | rfl | rfl | rfl
        · rw [zU_nj (by omega), zU_eq, v0, r4]
        · rw [zU_eq, v1, r6]
        · rw [zU_nj (by omega), zU_nj (by omega), v2, hp.2.2.2.1 (202 + 11 * v 7 + 2) (by omega) (by omega)]
          exact g5 2 (by decide)
        · rw [zU_nj (by omega), zU_nj (by omega), v3, hp.2.2.2.1 (202 + 11 * v 7 + 3) (by omega) (by omega)]
          exact g5 3 (by decide)
        · rw [zU_nj (by omega), zU_nj (by omega), v4, hp.2.2.2.1 (202 + 11 * v 7 + 4) (by omega) (by omega)]
          exact g5 4 (by decide)
      · dsimp only
        rw [zU_nj (by omega), zU_nj (by omega)]
        have hb := (tn6_ok hok).2.2.1
        have hnm : vname (vTen B n v s) (202 + 11 * v 7 + 5) = vnm B (tS B n (tn1 B n v s).2.2) (tE B n (tn1 B n v s).2.2) := vname_let hb hv.2.2.2.2.2
        rw [hnm, ← r1]
        exact g6
    exact h _ (hF11.tr ⟨fun a b1 b2 => (hM a (by omega)).trans (g1 a (by omega) (by omega)), g2⟩) (hP11.cg ((hM 104 (by decide)).trans (g1 104 (by decide) (by decide))) ((hM 100 (by decide)).trans (g1 100 (by decide) (by decide))) ((hM 101 (by decide)).trans (g1 101 (by decide) (by decide)))) (hR12.rz (hp.ten hok)) (fun _ => hR12)
