/-! THE REFERENCE, a round passed -/
theorem vgrow_wf {v : zV} (hW : zWF v) {k : Nat} (hk : k ≤ v 7) : zWF (vgrow v k) := by
  have h7 := hW.tN
  refine hW.ofTen (fun i hi => vgrow_far (by omega) hi) (fun t ht => ?_)
  have h1 := hW.ten ht
  have h2 := vgrown_le hW ht
  refine ⟨?_, ?_, ?_, ?_⟩
  · show vgrow v k (202 + 11 * t + 0) ≤ _
    rw [vgrow_c (by decide) (by decide)]; exact h1.1
  · show vgrow v k (202 + 11 * t + 1) ≤ _
    rw [vgrow_c (by decide) (by decide)]; exact h1.2.1
  · show vgrow v k (202 + 11 * t + 2) ≤ _
    rcases Nat.lt_or_ge t k with q | q
    · rw [vgrow_at q]; exact h2.2
    · rw [vgrow_off (fun t' ht' => by omega)]; exact h1.2.2.1
  · show vgrow v k (202 + 11 * t + 4) ≤ _
    rw [vgrow_c (by decide) (by decide)]; exact h1.2.2.2
theorem zOw.putL {w : Nat} {M M1 : zM} {x : Int64} (h : zOw w M M1) : zOw w M (M1.1, zU M1.2.1 118 14 x, M1.2.2) := ⟨h.1, fun a j hj => by
  show zU M1.2.1 118 14 x a j = _
  by_cases e : a = 118
  · subst e
    rw [zU_at]
    exact (if_neg (fun q => hj ⟨rfl, q⟩)).trans (h.2.1 118 j hj)
  · rw [zU_off e]; exact h.2.1 a j hj, h.2.2⟩
theorem zSq.ofO {w : Nat} {M M1 M2 : zM} (h : zSq w M M1) (h2 : zOw w M1 M2) : zSq w M M2 := h.tr (zSq.ofOw h2)
theorem zRd.p15 {M : zM} {v : zV} {d k : Nat} {x : Int32} {s : zR} (h : zRd M v d k s) : zRd (zU M.1 118 15 x, M.2) v d k s := by
  obtain ⟨h1, h2, h3, h4⟩ := h
  refine ⟨h1.off (by omega), fun i hi => ?_, ?_, ?_⟩
  · show zU M.1 118 15 x 125 i = _
    rw [zU_off (by decide)]; exact h2 i hi
  · show zU M.1 118 15 x 118 12 = _
    rw [zU_at]; exact h3
  · show zU M.1 118 15 x 118 13 = _
    rw [zU_at]; exact h4
theorem zRA.lt7 {M : zM} {w : Nat} {v : zV} (h : zRA M w v) : w < 133 := h.2.1.lt
theorem jX10_growPurses {w : Nat} {v : zV} {Q : Option Value → zM → Prop} {X : String → zM → Prop} {M : zM} (hA : zRA M w v) (hW : zWF v) (h : ∀ M', zOw w M M' → zRA M' w (vgrow v (v 7)) → M'.2 = M.2 → Q none M') : zJ yX10_growPurses cX10_growPurses 2 none rX10_growPurses Q X rX10_growPurses.cells rX10_growPurses.slots 0 (zEnt 2 [.ref 118]) [] M := by
  have h7 := hW.tN
  show zJ yX10_growPurses cX10_growPurses 2 none rX10_growPurses Q X 0 0 0 [some (.ref 118), none] [] M
  refine zj_iconstN_0 (n := 1) rfl dX10_growPurses_0 ?_
  refine zj_istore1 (n := 2) rfl dX10_growPurses_1 rfl (Nat.le_of_ble_eq_true rfl) ?_
  refine zFor_rule (P := fun t (_ : Unit) => ∀ M2, zOw w M M2 → zRA M2 w (vgrow v t) → M2.2 = M.2 → zJ yX10_growPurses cX10_growPurses 2 none rX10_growPurses Q X 0 0 2 [some (.ref 118), some (.int (nI t))] [] M2) (n := v 7) (f := fun _ s => s) (s0 := ()) ?_ ?_ M zOw.rf hA rfl
  · intro t _ ht hk M2 hO2 hA2 hL2
    refine zj_iload1 (n := 3) rfl dX10_growPurses_2 ?_
    refine zj_aload0 (n := 4) rfl dX10_growPurses_3 ?_
    refine zj_getr (n := 7) (q := w) rfl dX10_growPurses_4 zf_X10_24 rfl (by decide) (by decide) hA2.now ?_
    refine zj_bipushN (v := 7) (n := 9) rfl dX10_growPurses_7 (by decide) ?_
    refine zj_ialoadN (e := v 7) (n := 10) rfl dX10_growPurses_9 hA.2.1.lt hA.2.1.ty (by rw [hA2.2.1.len]; omega) (by rw [hA2.2.2 7 (by decide), vgrow_far (by omega) (by decide)]) ?_
    refine zj_icmpN_ge (n := 13) (tgt := 39) rfl dX10_growPurses_10 (by decide) (by omega) (by omega) (fun c10 => by omega) (fun c10 => ?_)
    refine zj_aload0 (n := 14) rfl dX10_growPurses_13 ?_
    refine zj_getr (n := 17) (q := w) rfl dX10_growPurses_14 zf_X10_24 rfl (by decide) (by decide) hA2.now ?_
    refine zj_sipushN (v := 202) (n := 20) rfl dX10_growPurses_17 (by decide) ?_
    refine zj_bipushN (v := 11) (n := 22) rfl dX10_growPurses_20 (by decide) ?_
    refine zj_iload1 (n := 23) rfl dX10_growPurses_22 ?_
    refine zj_imulN (n := 24) rfl dX10_growPurses_23 ?_
    refine zj_iaddN (n := 25) rfl dX10_growPurses_24 ?_
    refine zj_iconstN_2 (n := 26) rfl dX10_growPurses_25 ?_
    refine zj_iaddN (n := 27) rfl dX10_growPurses_26 ?_
    refine zj_aload0 (n := 28) rfl dX10_growPurses_27 ?_
    refine zj_iload1 (n := 29) rfl dX10_growPurses_28 ?_
    refine zj_callV1 (n := 32) (a' := 0) (b' := 0) rfl dX10_growPurses_29 zm_X10_172 (by decide) (by decide) rfl (Nat.le_of_ble_eq_true rfl) (Nat.le_of_ble_eq_true rfl) (Nat.le_of_ble_eq_true rfl) (Nat.le_of_ble_eq_true rfl) (jX10_grownPurse hA2 (vgrow_wf hW (by omega)) (show t < vgrow v t 7 by rw [vgrow_far (by omega) (by decide)]; exact ht) ?_)
    refine zj_iastoreN (n := 33) rfl dX10_growPurses_32 hA.2.1.lt hA.2.1.ty (by rw [hA2.2.1.len]; omega) ?_
    refine zj_iincN1 (n := 36) rfl dX10_growPurses_33 rfl (Nat.le_of_ble_eq_true rfl) ?_
    refine zj_goto (tgt := 2) dX10_growPurses_36 (by decide) ?_
    exact hk _ hO2.put hA2.set hL2
  · intro M2 hO2 hA2 hL2
    refine zj_iload1 (n := 3) rfl dX10_growPurses_2 ?_
    refine zj_aload0 (n := 4) rfl dX10_growPurses_3 ?_
    refine zj_getr (n := 7) (q := w) rfl dX10_growPurses_4 zf_X10_24 rfl (by decide) (by decide) hA2.now ?_
    refine zj_bipushN (v := 7) (n := 9) rfl dX10_growPurses_7 (by decide) ?_
    refine zj_ialoadN (e := v 7) (n := 10) rfl dX10_growPurses_9 hA.2.1.lt hA.2.1.ty (by rw [hA2.2.1.len]; omega) (by rw [hA2.2.2 7 (by decide), vgrow_far (by omega) (by decide)]) ?_
    refine zj_icmpN_ge (n := 13) (tgt := 39) rfl dX10_growPurses_10 (by decide) (by omega) (by omega) (fun c10 => ?_) (fun c10 => by omega)
    exact zj_return dX10_growPurses_39 rfl (h M2 hO2 hA2 hL2)
theorem jX10_pay {w : Nat} {v : zV} {k : Nat} {Q : Option Value → zM → Prop} {X : String → zM → Prop} {M : zM} (hA : zRA M w (vpays v k)) (hW : zWF v) (hR : zRd M v 0 (vord v 0).1 (vsell v 0)) (hp : ∀ i, i < (vord v 0).1 → M.1 126 i = nI (vprice v 0 i)) (hk : k < (vord v 0).1) (h : ∀ M', zOw w M M' → zRA M' w (vpays v (k + 1)) → M'.2.1 118 14 = M.2.1 118 14 + lN (vpayd v 0 k) → Q none M') : zJ yX10_pay cX10_pay 4 none rX10_pay Q X rX10_pay.cells rX10_pay.slots 0 (zEnt 4 [.ref 118, .int (nI k)]) [] M := by
  obtain ⟨b1, b2, b3, b4, b5, b6, b7⟩ := vbidder hW hk
  have hn10 := vord_le hW 0
  have h7 := hW.tN
  have h8 := hW.gN
  have e0 : vpays v k (268 + 23 * (vord v 0).2 k + 0) = vten v 0 k := vpays_far hW (by omega) (by omega)
  obtain ⟨c1, c2⟩ := vpays_can hW hk
  have c3 := vpays_paid hW (k := k) b2
  have c4 := vpayd_max hW hk
  show zJ yX10_pay cX10_pay 4 none rX10_pay Q X 0 0 0 [some (.ref 118), some (.int (nI k)), none, none] [] M
  refine zj_sipushN (v := 202) (n := 3) rfl dX10_pay_0 (by decide) ?_
  refine zj_bipushN (v := 11) (n := 5) rfl dX10_pay_3 (by decide) ?_
  refine zj_aload0 (n := 6) rfl dX10_pay_5 ?_
  refine zj_aload0 (n := 7) rfl dX10_pay_6 ?_
  refine zj_getr (n := 10) (q := 122) rfl dX10_pay_7 zf_X10_31 rfl (by decide) (by decide) rfl ?_
  refine zj_iload1 (n := 11) rfl dX10_pay_10 ?_
  refine zj_ialoadN (e := (vord v 0).2 k) (n := 12) rfl dX10_pay_11 (by decide) (by decide) (show k < 10 by omega) (hR.1.1.2 k hk).1 ?_
  refine zj_iconstN_0 (n := 13) rfl dX10_pay_12 ?_
  refine zj_callV2 (n := 16) (a' := 0) (b' := 0) rfl dX10_pay_13 zm_X10_66 (by decide) (by decide) rfl (Nat.le_of_ble_eq_true rfl) (Nat.le_of_ble_eq_true rfl) (Nat.le_of_ble_eq_true rfl) (Nat.le_of_ble_eq_true rfl) (jX10_groupValue (c := 0) hA (by omega) ?_)
  rw [e0]
  refine zj_imulN (n := 17) rfl dX10_pay_16 ?_
  refine zj_iaddN (n := 18) rfl dX10_pay_17 ?_
  refine zj_istore2 (n := 19) rfl dX10_pay_18 rfl (Nat.le_of_ble_eq_true rfl) ?_
  refine zj_aload0 (n := 20) rfl dX10_pay_19 ?_
  refine zj_getr (n := 23) (q := 125) rfl dX10_pay_20 zf_X10_40 rfl (by decide) (by decide) rfl ?_
  refine zj_iload1 (n := 24) rfl dX10_pay_23 ?_
  refine zj_ialoadN (e := vunits v 0 k) (n := 25) rfl dX10_pay_24 (by decide) (by decide) (show k < 10 by omega) (show _ = nI (vunits v 0 k) from hR.2.1 k hk) ?_
  refine zj_aload0 (n := 26) rfl dX10_pay_25 ?_
  refine zj_getr (n := 29) (q := 126) rfl dX10_pay_26 zf_X10_43 rfl (by decide) (by decide) rfl ?_
  refine zj_iload1 (n := 30) rfl dX10_pay_29 ?_
  refine zj_ialoadN (e := vprice v 0 k) (n := 31) rfl dX10_pay_30 (by decide) (by decide) (show k < 10 by omega) (hp k hk) ?_
  refine zj_imulN (n := 32) rfl dX10_pay_31 ?_
  refine zj_istore3 (n := 33) rfl dX10_pay_32 rfl (Nat.le_of_ble_eq_true rfl) ?_
  show zJ yX10_pay cX10_pay 4 none rX10_pay Q X 0 0 33 [some (.ref 118), some (.int (nI k)), some (.int (nI (202 + 11 * vten v 0 k))), some (.int (nI (vpayd v 0 k)))] [] M
  refine zj_aload0 (n := 34) rfl dX10_pay_33 ?_
  refine zj_dupr (n := 35) rfl dX10_pay_34 ?_
  refine zj_getl (n := 38) rfl dX10_pay_35 zf_X10_187 rfl (by decide) (by decide) ?_
  refine zj_iload3 (n := 39) rfl dX10_pay_38 ?_
  refine zj_i2lN (n := 40) rfl dX10_pay_39 (by omega) ?_
  refine zj_ladd (n := 41) rfl dX10_pay_40 ?_
  refine zj_putl (n := 44) rfl dX10_pay_41 zp_X10_187 rfl (by decide) (by decide) ?_
  refine zj_gen (fun M1 => zOw w M M1 ∧ zRA M1 w (vpays v k) ∧ M1.2.1 118 14 = M.2.1 118 14 + lN (vpayd v 0 k)) ⟨zOw.rf.putL, hA.offL, (by dsimp only; exact zU_eq)⟩ (fun M1 h1 => ?_)
  obtain ⟨hO1, hA1, hL1⟩ := h1
  have hR1 := hO1.rd hA.2.1 hR
  refine zj_aload0 (n := 45) rfl dX10_pay_44 ?_
  refine zj_getr (n := 48) (q := w) rfl dX10_pay_45 zf_X10_24 rfl (by decide) (by decide) hA1.now ?_
  refine zj_iload2 (n := 49) rfl dX10_pay_48 ?_
  refine zj_iconstN_2 (n := 50) rfl dX10_pay_49 ?_
  refine zj_iaddN (n := 51) rfl dX10_pay_50 ?_
  refine zj_dup2 (n := 52) rfl dX10_pay_51 ?_
  refine zj_ialoadN (e := (vpays v k) ((202 + (11 * (vten v 0 k))) + 2)) (n := 53) rfl dX10_pay_52 hA.2.1.lt hA.2.1.ty (by rw [hA1.2.1.len]; omega) (hA1.2.2 _ (by omega)) ?_
  refine zj_iload3 (n := 54) rfl dX10_pay_53 ?_
  refine zj_isubN (n := 55) rfl dX10_pay_54 (by omega) ?_
  refine zj_iastoreN (n := 56) rfl dX10_pay_55 hA.2.1.lt hA.2.1.ty (by rw [hA1.2.1.len]; omega) ?_
  refine zj_gen (fun M2 => zOw w M M2 ∧ zRA M2 w (vset (vpays v k) (202 + 11 * vten v 0 k + 2) (vpays v k (202 + 11 * vten v 0 k + 2) - vpayd v 0 k)) ∧ M2.2.1 118 14 = M.2.1 118 14 + lN (vpayd v 0 k)) ⟨hO1.put, hA1.set, hL1⟩ (fun M2 h2 => ?_)
  obtain ⟨hO2, hA2, hL2⟩ := h2
  have hR2 := hO2.rd hA.2.1 hR
  refine zj_aload0 (n := 57) rfl dX10_pay_56 ?_
  refine zj_getr (n := 60) (q := w) rfl dX10_pay_57 zf_X10_24 rfl (by decide) (by decide) hA2.now ?_
  refine zj_iload2 (n := 61) rfl dX10_pay_60 ?_
  refine zj_iconstN_3 (n := 62) rfl dX10_pay_61 ?_
  refine zj_iaddN (n := 63) rfl dX10_pay_62 ?_
  refine zj_dup2 (n := 64) rfl dX10_pay_63 ?_
  refine zj_ialoadN (e := vpays v k (202 + 11 * vten v 0 k + 3)) (n := 65) rfl dX10_pay_64 hA.2.1.lt hA.2.1.ty (by rw [hA2.2.1.len]; omega) (by rw [hA2.2.2 _ (by omega), vset_off (by omega)]) ?_
  refine zj_aload0 (n := 66) rfl dX10_pay_65 ?_
  refine zj_getr (n := 69) (q := 125) rfl dX10_pay_66 zf_X10_40 rfl (by decide) (by decide) rfl ?_
  refine zj_iload1 (n := 70) rfl dX10_pay_69 ?_
  refine zj_ialoadN (e := vunits v 0 k) (n := 71) rfl dX10_pay_70 (by decide) (by decide) (show k < 10 by omega) (show _ = nI (vunits v 0 k) from hR2.2.1 k hk) ?_
  refine zj_iaddN (n := 72) rfl dX10_pay_71 ?_
  refine zj_iastoreN (n := 73) rfl dX10_pay_72 hA.2.1.lt hA.2.1.ty (by rw [hA2.2.1.len]; omega) ?_
  refine zj_gen (fun M3 => zOw w M M3 ∧ zRA M3 w (vset (vset (vpays v k) (202 + 11 * vten v 0 k + 2) (vpays v k (202 + 11 * vten v 0 k + 2) - vpayd v 0 k)) (202 + 11 * vten v 0 k + 3) (vpays v k (202 + 11 * vten v 0 k + 3) + vunits v 0 k)) ∧ M3.2.1 118 14 = M.2.1 118 14 + lN (vpayd v 0 k)) ⟨hO2.put, hA2.set, hL2⟩ (fun M3 h3 => ?_)
  obtain ⟨hO3, hA3, hL3⟩ := h3
  have hR3 := hO3.rd hA.2.1 hR
  refine zj_aload0 (n := 74) rfl dX10_pay_73 ?_
  refine zj_getr (n := 77) (q := w) rfl dX10_pay_74 zf_X10_24 rfl (by decide) (by decide) hA3.now ?_
  refine zj_iload2 (n := 78) rfl dX10_pay_77 ?_
  refine zj_iconstN_4 (n := 79) rfl dX10_pay_78 ?_
  refine zj_iaddN (n := 80) rfl dX10_pay_79 ?_
  refine zj_ldc2N (v := 2000000000) (n := 83) rfl dX10_pay_80 zc_X10_191 ?_
  refine zj_aload0 (n := 84) rfl dX10_pay_83 ?_
  refine zj_getr (n := 87) (q := w) rfl dX10_pay_84 zf_X10_24 rfl (by decide) (by decide) hA3.now ?_
  refine zj_iload2 (n := 88) rfl dX10_pay_87 ?_
  refine zj_iconstN_4 (n := 89) rfl dX10_pay_88 ?_
  refine zj_iaddN (n := 90) rfl dX10_pay_89 ?_
  refine zj_ialoadN (e := vpays v k (202 + 11 * vten v 0 k + 4)) (n := 91) rfl dX10_pay_90 hA.2.1.lt hA.2.1.ty (by rw [hA3.2.1.len]; omega) (by rw [hA3.2.2 _ (by omega), vset_off (by omega), vset_off (by omega)]) ?_
  refine zj_i2lN (n := 92) rfl dX10_pay_91 (by omega) ?_
  refine zj_iload3 (n := 93) rfl dX10_pay_92 ?_
  refine zj_i2lN (n := 94) rfl dX10_pay_93 (by omega) ?_
  refine zj_laddN (n := 95) rfl dX10_pay_94 ?_
  refine zj_lminN (n := 98) rfl dX10_pay_95 zm_X10_145 (by decide) (Nat.le_of_ble_eq_true rfl) (by omega) (by omega) ?_
  refine zj_l2iN (n := 99) rfl dX10_pay_98 ?_
  refine zj_iastoreN (n := 100) rfl dX10_pay_99 hA.2.1.lt hA.2.1.ty (by rw [hA3.2.1.len]; omega) ?_
  exact zj_return dX10_pay_100 rfl (h _ hO3.put (hA3.set) hL3)
theorem jX10_repair {w g : Nat} {s : zV} {Q : Option Value → zM → Prop} {X : String → zM → Prop} {M : zM} (hA : zRA M w s) (hW : zWF s) (hd : M.1 118 4 = nI 0) (hg : g < s 8) (h : ∀ M', zOw w M M' → zRA M' w (vrk s g (vrn s g)) → M'.2 = M.2 → Q (some (.int (nI (vrn s g)))) M') : zJ yX10_repair cX10_repair 6 (some .int) rX10_repair Q X rX10_repair.cells rX10_repair.slots 0 (zEnt 6 [.ref 118, .int (nI g)]) [] M := by
  have h8 := hW.gN
  have hco := (hW.cost hg).2
  show zJ yX10_repair cX10_repair 6 (some .int) rX10_repair Q X 0 0 0 [some (.ref 118), some (.int (nI g)), none, none, none, none] [] M
  refine zj_iconstN_0 (n := 1) rfl dX10_repair_0 ?_
  refine zj_istore2 (n := 2) rfl dX10_repair_1 rfl (Nat.le_of_ble_eq_true rfl) ?_
  refine zj_aload0 (n := 3) rfl dX10_repair_2 ?_
  refine zj_iload1 (n := 4) rfl dX10_repair_3 ?_
  refine zj_callV1 (n := 7) (a' := 0) (b' := 0) rfl dX10_repair_4 zm_X10_133 (by decide) (by decide) rfl (Nat.le_of_ble_eq_true rfl) (Nat.le_of_ble_eq_true rfl) (Nat.le_of_ble_eq_true rfl) (Nat.le_of_ble_eq_true rfl) (jX10_costOf hA (by omega) ?_)
  refine zj_istore3 (n := 8) rfl dX10_repair_7 rfl (Nat.le_of_ble_eq_true rfl) ?_
  refine zFind_rule (P := fun k => ∀ M2, zOw w M M2 → zRA M2 w (vrk s g k) → M2.2 = M.2 → zJ yX10_repair cX10_repair 6 (some .int) rX10_repair Q X 0 0 8 [some (.ref 118), some (.int (nI g)), some (.int (nI k)), some (.int (nI (vcost s g))), none, none] [] M2) (n := 11) (p := fun k => vstop (vrk s g k) g) ?_ ?_ M zOw.rf hA rfl
  · intro k hk9 hf hk M2 hO2 hA2 hL2
    obtain ⟨hrk, r4⟩ := vrk_ok hW hg k hf
    have ev := vrk_vsh hrk
    obtain ⟨r1, r2, r3⟩ := hrk
    have hg2 : g < vrk s g k 8 := by rw [r2 8 (by omega)]; exact hg
    have ec : vcost (vrk s g k) g = vcost s g := by unfold vcost; rw [show gp (vrk s g k) g 2 = gp s g 2 from r2 _ (by omega), show gp (vrk s g k) g 4 = gp s g 4 from r2 _ (by omega)]
    have hn6 := r1.nN
    have h10 := (r1.sh hg2).2
    have hp7 : vrk s g k (268 + 23 * g + 6) ≤ 7000 := (r1.grp hg2).2.2.2.2.2.2.2.2.2.2
    refine zj_aload0 (n := 9) rfl dX10_repair_8 ?_
    refine zj_iload1 (n := 10) rfl dX10_repair_9 ?_
    refine zj_bipushN (v := 6) (n := 12) rfl dX10_repair_10 (by decide) ?_
    refine zj_callV2 (n := 15) (a' := 0) (b' := 0) rfl dX10_repair_12 zm_X10_66 (by decide) (by decide) rfl (Nat.le_of_ble_eq_true rfl) (Nat.le_of_ble_eq_true rfl) (Nat.le_of_ble_eq_true rfl) (Nat.le_of_ble_eq_true rfl) (jX10_groupValue (c := 6) hA2 (by omega) ?_)
    refine zj_iload3 (n := 16) rfl dX10_repair_15 ?_
    refine zj_icmpN_lt (n := 19) (tgt := 98) rfl dX10_repair_16 (by decide) (by omega) (by omega) (fun c16 => ?_) (fun c16 => ?_)
    · refine zj_iload2 (n := 99) rfl dX10_repair_98 ?_
      refine zj_ireturn dX10_repair_99 rfl rfl ?_
      have ek : vrn s g = k := zFst_eq hk9 (by unfold vstop; rw [decide_eq_false (by rw [ec]; exact Nat.not_le.mpr c16)]; rfl) hf
      rw [← ek]
      exact h M2 hO2 (by rw [ek]; exact hA2) hL2
    · refine zj_aload0 (n := 20) rfl dX10_repair_19 ?_
      refine zj_iload1 (n := 21) rfl dX10_repair_20 ?_
      refine zj_callV1 (n := 24) (a' := 0) (b' := 0) rfl dX10_repair_21 zm_X10_149 (by decide) (by decide) rfl (Nat.le_of_ble_eq_true rfl) (Nat.le_of_ble_eq_true rfl) (Nat.le_of_ble_eq_true rfl) (Nat.le_of_ble_eq_true rfl) (jX10_isDamaged hA2 r1 (hO2.td hA.2.1 hd) (by decide) hg2 ?_)
      refine zj_ifB_eq (n := 27) (tgt := 98) rfl dX10_repair_24 (by decide) (fun c24 => ?_) (fun c24 => ?_)
      · refine zj_iload2 (n := 99) rfl dX10_repair_98 ?_
        refine zj_ireturn dX10_repair_99 rfl rfl ?_
        have ek : vrn s g = k := zFst_eq hk9 (by unfold vstop; rw [c24, Bool.and_false]; rfl) hf
        rw [← ek]
        exact h M2 hO2 (by rw [ek]; exact hA2) hL2
      · refine zj_aload0 (n := 28) rfl dX10_repair_27 ?_
        refine zj_iload1 (n := 29) rfl dX10_repair_28 ?_
        refine zj_callV1 (n := 32) (a' := 0) (b' := 0) rfl dX10_repair_29 zm_X10_118 (by decide) (by decide) rfl (Nat.le_of_ble_eq_true rfl) (Nat.le_of_ble_eq_true rfl) (Nat.le_of_ble_eq_true rfl) (Nat.le_of_ble_eq_true rfl) (jX10_firstMissing hA2 r1 (hO2.td hA.2.1 hd) (by decide) hg2 ?_)
        rw [if_pos c24]
        have hlt := vfm_lt c24
        refine zj_istore4 (n := 34) rfl dX10_repair_32 rfl (Nat.le_of_ble_eq_true rfl) ?_
        refine zj_aload0 (n := 35) rfl dX10_repair_34 ?_
        refine zj_iload1 (n := 36) rfl dX10_repair_35 ?_
        refine zj_iload4 (n := 38) rfl dX10_repair_36 ?_
        refine zj_callV2 (n := 41) (a' := 0) (b' := 0) rfl dX10_repair_38 zm_X10_155 (by decide) (by decide) rfl (Nat.le_of_ble_eq_true rfl) (Nat.le_of_ble_eq_true rfl) (Nat.le_of_ble_eq_true rfl) (Nat.le_of_ble_eq_true rfl) (jX10_placeMissing hA2 r1 hg2 hlt ?_)
        refine zj_istore5 (n := 43) rfl dX10_repair_41 rfl (Nat.le_of_ble_eq_true rfl) ?_
        refine zj_iload5 (n := 45) rfl dX10_repair_43 ?_
        refine zj_iconst_m1 (n := 46) rfl dX10_repair_45 ?_
        refine zj_icmpO_ne (n := 49) (tgt := 51) rfl dX10_repair_46 (by decide) (fun m hm => by have := (vpm_can hm).1; omega) (fun m46 c46 => ?_) (fun c46 => ?_)
        · rw [c46]
          refine zj_aload0 (n := 52) rfl dX10_repair_51 ?_
          refine zj_getr (n := 55) (q := w) rfl dX10_repair_52 zf_X10_24 rfl (by decide) (by decide) hA2.now ?_
          refine zj_sipushN (v := 268) (n := 58) rfl dX10_repair_55 (by decide) ?_
          refine zj_bipushN (v := 23) (n := 60) rfl dX10_repair_58 (by decide) ?_
          refine zj_iload1 (n := 61) rfl dX10_repair_60 ?_
          refine zj_imulN (n := 62) rfl dX10_repair_61 ?_
          refine zj_iaddN (n := 63) rfl dX10_repair_62 ?_
          refine zj_bipushN (v := 7) (n := 65) rfl dX10_repair_63 (by decide) ?_
          refine zj_iaddN (n := 66) rfl dX10_repair_65 ?_
          refine zj_iload4 (n := 68) rfl dX10_repair_66 ?_
          refine zj_iaddN (n := 69) rfl dX10_repair_68 ?_
          refine zj_iload5 (n := 71) rfl dX10_repair_69 ?_
          refine zj_iastoreN (n := 72) rfl dX10_repair_71 hA.2.1.lt hA.2.1.ty (by rw [hA2.2.1.len]; omega) ?_
          refine zj_gen (fun M3 => zOw w M M3 ∧ zRA M3 w (vset (vrk s g k) (268 + 23 * g + 7 + vfm (vrk s g k) 0 g) m46) ∧ M3.2 = M.2) ⟨hO2.put, hA2.set (x := m46), hL2⟩ (fun M3 h3 => ?_)
          obtain ⟨hO3, hA3, hL3⟩ := h3
          refine zj_aload0 (n := 73) rfl dX10_repair_72 ?_
          refine zj_getr (n := 76) (q := w) rfl dX10_repair_73 zf_X10_24 rfl (by decide) (by decide) hA3.now ?_
          refine zj_sipushN (v := 268) (n := 79) rfl dX10_repair_76 (by decide) ?_
          refine zj_bipushN (v := 23) (n := 81) rfl dX10_repair_79 (by decide) ?_
          refine zj_iload1 (n := 82) rfl dX10_repair_81 ?_
          refine zj_imulN (n := 83) rfl dX10_repair_82 ?_
          refine zj_iaddN (n := 84) rfl dX10_repair_83 ?_
          refine zj_bipushN (v := 6) (n := 86) rfl dX10_repair_84 (by decide) ?_
          refine zj_iaddN (n := 87) rfl dX10_repair_86 ?_
          refine zj_dup2 (n := 88) rfl dX10_repair_87 ?_
          refine zj_ialoadN (e := vrk s g k (268 + 23 * g + 6)) (n := 89) rfl dX10_repair_88 hA.2.1.lt hA.2.1.ty (by rw [hA3.2.1.len]; omega) (by rw [hA3.2.2 _ (by omega), vset_off (by omega)]) ?_
          refine zj_iload3 (n := 90) rfl dX10_repair_89 ?_
          refine zj_isubN (n := 91) rfl dX10_repair_90 (by omega) ?_
          refine zj_iastoreN (n := 92) rfl dX10_repair_91 hA.2.1.lt hA.2.1.ty (by rw [hA3.2.1.len]; omega) ?_
          refine zj_iincN2 (n := 95) rfl dX10_repair_92 rfl (Nat.le_of_ble_eq_true rfl) ?_
          refine zj_goto (tgt := 8) dX10_repair_95 (by decide) ?_
          refine zj_sub (l' := [some (.ref 118), some (.int (nI g)), some (.int (nI (k + 1))), some (.int (nI (vcost s g))), none, none]) (by simp only [zLe, eq_self, and_true]) ?_
          have ef : vstop (vrk s g k) g = false := by unfold vstop; rw [decide_eq_true (by rw [ec]; exact c16), c24, c46]; rfl
          exact hk ef _ hO3.put (by rw [vrk_succ c46]; unfold vrep1; rw [ec]; exact hA3.set) hL3
        · refine zj_iload2 (n := 50) rfl dX10_repair_49 ?_
          refine zj_ireturn dX10_repair_50 rfl rfl ?_
          have ek : vrn s g = k := zFst_eq hk9 (by unfold vstop; rw [c46, Bool.and_comm]; rfl) hf
          rw [← ek]
          exact h M2 hO2 (by rw [ek]; exact hA2) hL2
  · intro hf
    intro M2 hO2 hA2 hL2
    have := vrk_stops hW hg (fun j hj => hf j (by omega))
    rw [hf 10 (by decide)] at this
    cases this
theorem jX10_record_t {w sold clr many rep : Nat} {r : zV} {Q : Option Value → zM → Prop} {X : String → zM → Prop} {M : zM} (hA : zRA M w r) (h9 : r 9 < 40) (hc : M.1 118 12 = nI clr) (hm : M.1 118 11 = nI many) (h : ∀ M', zOw w M M' → zRA M' w (vrec r sold clr many rep) → M'.2 = M.2 → Q none M') : zJ yX10_record cX10_record 4 none rX10_record Q X 0 0 58 [some (.ref 118), some (.int (nI sold)), some (.int (nI rep)), none] [] M := by
  refine zj_sipushN (v := 498) (n := 61) rfl dX10_record_58 (by decide) ?_
  refine zj_iconstN_5 (n := 62) rfl dX10_record_61 ?_
  refine zj_aload0 (n := 63) rfl dX10_record_62 ?_
  refine zj_getr (n := 66) (q := w) rfl dX10_record_63 zf_X10_24 rfl (by decide) (by decide) hA.now ?_
  refine zj_bipushN (v := 9) (n := 68) rfl dX10_record_66 (by decide) ?_
  refine zj_ialoadN (e := r 9) (n := 69) rfl dX10_record_68 hA.2.1.lt hA.2.1.ty (by rw [hA.2.1.len]; omega) (hA.2.2 _ (by omega)) ?_
  refine zj_imulN (n := 70) rfl dX10_record_69 ?_
  refine zj_iaddN (n := 71) rfl dX10_record_70 ?_
  refine zj_istore3 (n := 72) rfl dX10_record_71 rfl (Nat.le_of_ble_eq_true rfl) ?_
  refine zj_aload0 (n := 73) rfl dX10_record_72 ?_
  refine zj_getr (n := 76) (q := w) rfl dX10_record_73 zf_X10_24 rfl (by decide) (by decide) hA.now ?_
  refine zj_iload3 (n := 77) rfl dX10_record_76 ?_
  refine zj_aload0 (n := 78) rfl dX10_record_77 ?_
  refine zj_getr (n := 81) (q := w) rfl dX10_record_78 zf_X10_24 rfl (by decide) (by decide) hA.now ?_
  refine zj_iconstN_5 (n := 82) rfl dX10_record_81 ?_
  refine zj_ialoadN (e := r 5) (n := 83) rfl dX10_record_82 hA.2.1.lt hA.2.1.ty (by rw [hA.2.1.len]; omega) (hA.2.2 _ (by omega)) ?_
  refine zj_iastoreN (n := 84) rfl dX10_record_83 hA.2.1.lt hA.2.1.ty (by rw [hA.2.1.len]; omega) ?_
  refine zj_gen (fun M1 => zOw w M M1 ∧ zRA M1 w (vset r (498 + 5 * r 9) (r 5)) ∧ M1.2 = M.2) ⟨zOw.rf.put, hA.set, rfl⟩ (fun M1 h1 => ?_)
  obtain ⟨hO1, hA1, hL1⟩ := h1
  refine zj_aload0 (n := 85) rfl dX10_record_84 ?_
  refine zj_getr (n := 88) (q := w) rfl dX10_record_85 zf_X10_24 rfl (by decide) (by decide) hA1.now ?_
  refine zj_iload3 (n := 89) rfl dX10_record_88 ?_
  refine zj_iconstN_1 (n := 90) rfl dX10_record_89 ?_
  refine zj_iaddN (n := 91) rfl dX10_record_90 ?_
  refine zj_iload1 (n := 92) rfl dX10_record_91 ?_
  refine zj_iastoreN (n := 93) rfl dX10_record_92 hA.2.1.lt hA.2.1.ty (by rw [hA1.2.1.len]; omega) ?_
  refine zj_gen (fun M2 => zOw w M M2 ∧ zRA M2 w (vset (vset r (498 + 5 * r 9) (r 5)) (498 + 5 * r 9 + 1) sold) ∧ M2.2 = M.2) ⟨hO1.put, hA1.set, hL1⟩ (fun M2 h2 => ?_)
  obtain ⟨hO2, hA2, hL2⟩ := h2
  refine zj_aload0 (n := 94) rfl dX10_record_93 ?_
  refine zj_getr (n := 97) (q := w) rfl dX10_record_94 zf_X10_24 rfl (by decide) (by decide) hA2.now ?_
  refine zj_iload3 (n := 98) rfl dX10_record_97 ?_
  refine zj_iconstN_2 (n := 99) rfl dX10_record_98 ?_
  refine zj_iaddN (n := 100) rfl dX10_record_99 ?_
  refine zj_aload0 (n := 101) rfl dX10_record_100 ?_
  refine zj_getiN (e := clr) (n := 104) rfl dX10_record_101 zf_X10_178 rfl (by decide) (by decide) (by rw [hO2.1 118 (by rcases hA.2.1 with q | q <;> omega)]; exact hc) ?_
  refine zj_iastoreN (n := 105) rfl dX10_record_104 hA.2.1.lt hA.2.1.ty (by rw [hA2.2.1.len]; omega) ?_
  refine zj_gen (fun M3 => zOw w M M3 ∧ zRA M3 w (vset (vset (vset r (498 + 5 * r 9) (r 5)) (498 + 5 * r 9 + 1) sold) (498 + 5 * r 9 + 2) clr) ∧ M3.2 = M.2) ⟨hO2.put, hA2.set, hL2⟩ (fun M3 h3 => ?_)
  obtain ⟨hO3, hA3, hL3⟩ := h3
  refine zj_aload0 (n := 106) rfl dX10_record_105 ?_
  refine zj_getr (n := 109) (q := w) rfl dX10_record_106 zf_X10_24 rfl (by decide) (by decide) hA3.now ?_
  refine zj_iload3 (n := 110) rfl dX10_record_109 ?_
  refine zj_iconstN_3 (n := 111) rfl dX10_record_110 ?_
  refine zj_iaddN (n := 112) rfl dX10_record_111 ?_
  refine zj_aload0 (n := 113) rfl dX10_record_112 ?_
  refine zj_getiN (e := many) (n := 116) rfl dX10_record_113 zf_X10_161 rfl (by decide) (by decide) (by rw [hO3.1 118 (by rcases hA.2.1 with q | q <;> omega)]; exact hm) ?_
  refine zj_iastoreN (n := 117) rfl dX10_record_116 hA.2.1.lt hA.2.1.ty (by rw [hA3.2.1.len]; omega) ?_
  refine zj_gen (fun M4 => zOw w M M4 ∧ zRA M4 w (vset (vset (vset (vset r (498 + 5 * r 9) (r 5)) (498 + 5 * r 9 + 1) sold) (498 + 5 * r 9 + 2) clr) (498 + 5 * r 9 + 3) many) ∧ M4.2 = M.2) ⟨hO3.put, hA3.set, hL3⟩ (fun M4 h4 => ?_)
  obtain ⟨hO4, hA4, hL4⟩ := h4
  refine zj_aload0 (n := 118) rfl dX10_record_117 ?_
  refine zj_getr (n := 121) (q := w) rfl dX10_record_118 zf_X10_24 rfl (by decide) (by decide) hA4.now ?_
  refine zj_iload3 (n := 122) rfl dX10_record_121 ?_
  refine zj_iconstN_4 (n := 123) rfl dX10_record_122 ?_
  refine zj_iaddN (n := 124) rfl dX10_record_123 ?_
  refine zj_iload2 (n := 125) rfl dX10_record_124 ?_
  refine zj_iastoreN (n := 126) rfl dX10_record_125 hA.2.1.lt hA.2.1.ty (by rw [hA4.2.1.len]; omega) ?_
  refine zj_gen (fun M5 => zOw w M M5 ∧ zRA M5 w (vset (vset (vset (vset (vset r (498 + 5 * r 9) (r 5)) (498 + 5 * r 9 + 1) sold) (498 + 5 * r 9 + 2) clr) (498 + 5 * r 9 + 3) many) (498 + 5 * r 9 + 4) rep) ∧ M5.2 = M.2) ⟨hO4.put, hA4.set, hL4⟩ (fun M5 h5 => ?_)
  obtain ⟨hO5, hA5, hL5⟩ := h5
  refine zj_aload0 (n := 127) rfl dX10_record_126 ?_
  refine zj_getr (n := 130) (q := w) rfl dX10_record_127 zf_X10_24 rfl (by decide) (by decide) hA5.now ?_
  refine zj_bipushN (v := 9) (n := 132) rfl dX10_record_130 (by decide) ?_
  refine zj_dup2 (n := 133) rfl dX10_record_132 ?_
  refine zj_ialoadN (e := r 9) (n := 134) rfl dX10_record_133 hA.2.1.lt hA.2.1.ty (by rw [hA5.2.1.len]; omega) (by rw [hA5.2.2 _ (by omega), vset_off (by omega), vset_off (by omega), vset_off (by omega), vset_off (by omega), vset_off (by omega)]) ?_
  refine zj_iconstN_1 (n := 135) rfl dX10_record_134 ?_
  refine zj_iaddN (n := 136) rfl dX10_record_135 ?_
  refine zj_iastoreN (n := 137) rfl dX10_record_136 hA.2.1.lt hA.2.1.ty (by rw [hA5.2.1.len]; omega) ?_
  exact zj_return dX10_record_137 rfl (h _ hO5.put hA5.set hL5)
def vshk (s : zV) (k : Nat) : zV := fun i => if 498 ≤ i ∧ i < 498 + k then s (i + 5) else s i
theorem vshk_succ (s : zV) (k : Nat) : vset (vshk s k) (498 + k) (s (503 + k)) = vshk s (k + 1) := by
  funext i
  unfold vset vshk
  by_cases e : i = 498 + k
  · subst e
    rw [if_pos rfl, if_pos (by omega)]
    congr 1
    omega
  · rw [if_neg e]
    by_cases q : 498 ≤ i ∧ i < 498 + k
    · rw [if_pos q, if_pos (by omega)]
    · rw [if_neg q, if_neg (by omega)]
theorem vshk_end (s : zV) : vset (vshk s 195) 9 39 = vshift s := by
  funext i
  unfold vset vshk vshift
  by_cases q : i = 9
  · subst q; rfl
  · rw [if_neg q]
    by_cases q2 : 498 ≤ i ∧ i < 693
    · rw [if_pos q2, if_pos (by omega)]
    · rw [if_neg q2, if_neg (by omega), if_neg q]
theorem zRA.eqv {M : zM} {w : Nat} {v v' : zV} (h : zRA M w v) (e : v = v') : zRA M w v' := e ▸ h
theorem jX10_record {w sold clr many rep : Nat} {s : zV} {Q : Option Value → zM → Prop} {X : String → zM → Prop} {M : zM} (hA : zRA M w s) (h9 : s 9 ≤ 40) (hc : M.1 118 12 = nI clr) (hm : M.1 118 11 = nI many) (h : ∀ M', zOw w M M' → zRA M' w (vrecord s sold clr many rep) → M'.2 = M.2 → Q none M') : zJ yX10_record cX10_record 4 none rX10_record Q X rX10_record.cells rX10_record.slots 0 (zEnt 4 [.ref 118, .int (nI sold), .int (nI rep)]) [] M := by
  show zJ yX10_record cX10_record 4 none rX10_record Q X 0 0 0 [some (.ref 118), some (.int (nI sold)), some (.int (nI rep)), none] [] M
  refine zj_aload0 (n := 1) rfl dX10_record_0 ?_
  refine zj_getr (n := 4) (q := w) rfl dX10_record_1 zf_X10_24 rfl (by decide) (by decide) hA.now ?_
  refine zj_bipushN (v := 9) (n := 6) rfl dX10_record_4 (by decide) ?_
  refine zj_ialoadN (e := s 9) (n := 7) rfl dX10_record_6 hA.2.1.lt hA.2.1.ty (by rw [hA.2.1.len]; omega) (hA.2.2 _ (by omega)) ?_
  refine zj_bipushN (v := 40) (n := 9) rfl dX10_record_7 (by decide) ?_
  refine zj_icmpN_ne (n := 12) (tgt := 58) rfl dX10_record_9 (by decide) (by omega) (by omega) (fun c9 => ?_) (fun c9 => ?_)
  · exact jX10_record_t hA (by omega) hc hm (fun M' a1 a2 a3 => h M' a1 (by unfold vrecord; rw [if_neg c9]; exact a2) a3)
  · refine zj_iconstN_0 (n := 13) rfl dX10_record_12 ?_
    refine zj_istore3 (n := 14) rfl dX10_record_13 rfl (Nat.le_of_ble_eq_true rfl) ?_
    refine zFor_rule (P := fun k (_ : Unit) => ∀ M2, zOw w M M2 → zRA M2 w (vshk s k) → M2.2 = M.2 → zJ yX10_record cX10_record 4 none rX10_record Q X 0 0 14 [some (.ref 118), some (.int (nI sold)), some (.int (nI rep)), some (.int (nI k))] [] M2) (n := 195) (f := fun _ s => s) (s0 := ()) ?_ ?_ M zOw.rf (hA.eqv (by funext i; unfold vshk; rw [if_neg (by omega)])) rfl
    · intro k _ hk9 hk M2 hO2 hA2 hL2
      refine zj_iload3 (n := 15) rfl dX10_record_14 ?_
      refine zj_sipushN (v := 195) (n := 18) rfl dX10_record_15 (by decide) ?_
      refine zj_icmpN_ge (n := 21) (tgt := 47) rfl dX10_record_18 (by decide) (by omega) (by omega) (fun c18 => by omega) (fun c18 => ?_)
      refine zj_aload0 (n := 22) rfl dX10_record_21 ?_
      refine zj_getr (n := 25) (q := w) rfl dX10_record_22 zf_X10_24 rfl (by decide) (by decide) hA2.now ?_
      refine zj_sipushN (v := 498) (n := 28) rfl dX10_record_25 (by decide) ?_
      refine zj_iload3 (n := 29) rfl dX10_record_28 ?_
      refine zj_iaddN (n := 30) rfl dX10_record_29 ?_
      refine zj_aload0 (n := 31) rfl dX10_record_30 ?_
      refine zj_getr (n := 34) (q := w) rfl dX10_record_31 zf_X10_24 rfl (by decide) (by decide) hA2.now ?_
      refine zj_sipushN (v := 503) (n := 37) rfl dX10_record_34 (by decide) ?_
      refine zj_iload3 (n := 38) rfl dX10_record_37 ?_
      refine zj_iaddN (n := 39) rfl dX10_record_38 ?_
      refine zj_ialoadN (e := s (503 + k)) (n := 40) rfl dX10_record_39 hA.2.1.lt hA.2.1.ty (by rw [hA2.2.1.len]; omega) (by rw [hA2.2.2 _ (by omega)]; unfold vshk; rw [if_neg (by omega)]) ?_
      refine zj_iastoreN (n := 41) rfl dX10_record_40 hA.2.1.lt hA.2.1.ty (by rw [hA2.2.1.len]; omega) ?_
      refine zj_iincN3 (n := 44) rfl dX10_record_41 rfl (Nat.le_of_ble_eq_true rfl) ?_
      refine zj_goto (tgt := 14) dX10_record_44 (by decide) ?_
      exact hk _ hO2.put (hA2.set.eqv (vshk_succ s k)) hL2
    · intro M2 hO2 hA2 hL2
      refine zj_iload3 (n := 15) rfl dX10_record_14 ?_
      refine zj_sipushN (v := 195) (n := 18) rfl dX10_record_15 (by decide) ?_
      refine zj_icmpN_ge (n := 21) (tgt := 47) rfl dX10_record_18 (by decide) (by omega) (by omega) (fun c18 => ?_) (fun c18 => by omega)
      refine zj_aload0 (n := 48) rfl dX10_record_47 ?_
      refine zj_getr (n := 51) (q := w) rfl dX10_record_48 zf_X10_24 rfl (by decide) (by decide) hA2.now ?_
      refine zj_bipushN (v := 9) (n := 53) rfl dX10_record_51 (by decide) ?_
      refine zj_dup2 (n := 54) rfl dX10_record_53 ?_
      refine zj_ialoadN (e := 40) (n := 55) rfl dX10_record_54 hA.2.1.lt hA.2.1.ty (by rw [hA2.2.1.len]; omega) (by rw [hA2.2.2 _ (by omega)]; unfold vshk; rw [if_neg (by omega), c9]) ?_
      refine zj_iconstN_1 (n := 56) rfl dX10_record_55 ?_
      refine zj_isubN (n := 57) rfl dX10_record_56 (by omega) ?_
      refine zj_iastoreN (n := 58) rfl dX10_record_57 hA.2.1.lt hA.2.1.ty (by rw [hA2.2.1.len]; omega) ?_
      refine zj_sub (l' := [some (.ref 118), some (.int (nI sold)), some (.int (nI rep)), none]) (by simp only [zLe, eq_self, and_true]) ?_
      exact jX10_record_t (hA2.set.eqv (vshk_end s)) (by rw [show vshift s 9 = 39 from rfl]; decide) (by dsimp only; rw [zU_ne (hA.2.1.ne (by decide)).symm, hO2.1 118 (hA.2.1.ne (by decide)).symm]; exact hc) (by dsimp only; rw [zU_ne (hA.2.1.ne (by decide)).symm, hO2.1 118 (hA.2.1.ne (by decide)).symm]; exact hm) (fun M' a1 a2 a3 => h M' (hO2.put.tr a1) (by unfold vrecord; rw [if_pos c9]; exact a2) (a3.trans hL2))
theorem jX10_passRound {w : Nat} {v : zV} {Q : Option Value → zM → Prop} {X : String → zM → Prop} {M : zM} (hA : zRA M w v) (hW : zWF v) (hd : M.1 118 4 = nI 0) (h : ∀ M', zSq w M M' → zRA M' w (vround v) → M'.1 118 15 = nI (vrepd v) → M'.2.1 118 14 = M.2.1 118 14 + lN (vpaid v) → Q (some (.int (nI (vsold v)))) M') : zJ yX10_passRound cX10_passRound 3 (some .int) rX10_passRound Q X rX10_passRound.cells rX10_passRound.slots 0 (zEnt 3 [.ref 118]) [] M := by
  have hn10 := vord_le hW 0
  have h8 := hW.gN
  have h7 := hW.tN
  have n118 : (118 : Nat) ≠ w := (hA.2.1.ne (by decide)).symm
  have n122 : (122 : Nat) ≠ w := (hA.2.1.ne (by decide)).symm
  have n125 : (125 : Nat) ≠ w := (hA.2.1.ne (by decide)).symm
  have n126 : (126 : Nat) ≠ w := (hA.2.1.ne (by decide)).symm
  show zJ yX10_passRound cX10_passRound 3 (some .int) rX10_passRound Q X 0 0 0 [some (.ref 118), none, none] [] M
  refine zj_aload0 (n := 1) rfl dX10_passRound_0 ?_
  refine zj_callV0 (n := 4) (a' := 0) (b' := 0) rfl dX10_passRound_1 zm_X10_193 (by decide) (by decide) rfl (Nat.le_of_ble_eq_true rfl) (Nat.le_of_ble_eq_true rfl) (Nat.le_of_ble_eq_true rfl) (Nat.le_of_ble_eq_true rfl) (jX10_layRound hA hW hd (by decide) ?_)
  intro M1 hM1 hR hp
  refine zj_aload0 (n := 5) rfl dX10_passRound_4 ?_
  refine zj_callV0 (n := 8) (a' := 0) (b' := 0) rfl dX10_passRound_5 zm_X10_196 (by decide) (by decide) rfl (Nat.le_of_ble_eq_true rfl) (Nat.le_of_ble_eq_true rfl) (Nat.le_of_ble_eq_true rfl) (Nat.le_of_ble_eq_true rfl) (jX10_growPurses (hM1.ra hA) hW ?_)
  intro M2 hO2 hA2 hL2
  refine zj_iconstN_0 (n := 9) rfl dX10_passRound_8 ?_
  refine zj_istore1 (n := 10) rfl dX10_passRound_9 rfl (Nat.le_of_ble_eq_true rfl) ?_
  refine zj_aload0 (n := 11) rfl dX10_passRound_10 ?_
  refine zj_iconstN_0 (n := 12) rfl dX10_passRound_11 ?_
  refine zj_puti (n := 15) rfl dX10_passRound_12 zp_X10_199 rfl (by decide) (by decide) ?_
  have hS2 : zSq w M (zU M2.1 118 15 (nI 0), M2.2) := ((zSq.ofSr hM1).tr (zSq.ofOw hO2)).tr zSq.put15
  have hR2 := hO2.rd hA.2.1 hR
  refine zj_iconstN_0 (n := 16) rfl dX10_passRound_15 ?_
  refine zj_istore2 (n := 17) rfl dX10_passRound_16 rfl (Nat.le_of_ble_eq_true rfl) ?_
  -- 
  refine zFor_rule (P := fun k (_ : Unit) => ∀ M3, zSq w M M3 → zRd M3 v 0 (vord v 0).1 (vsell v 0) → (∀ i, i < (vord v 0).1 → M3.1 126 i = nI (vprice v 0 i)) → zRA M3 w (vpays v k) → M3.1 118 15 = nI 0 → M3.2.1 118 14 = M.2.1 118 14 + lN (vsum (vpayd v 0) k) → zJ yX10_passRound cX10_passRound 3 (some .int) rX10_passRound Q X 0 0 17 [some (.ref 118), some (.int (nI (vsum (vunits v 0) k))), some (.int (nI k))] [] M3) (n := (vord v 0).1) (f := fun _ s => s) (s0 := ()) ?_ ?_ _ hS2 (zRd.p15 hR2) (fun i hi => by dsimp only; rw [zU_ne (by decide), hO2.1 126 n126]; exact hp i hi) (hA2.off (by decide)) (by dsimp only; exact zU_eq) (by show M2.2.1 118 14 = _; rw [hL2, hM1.2.1 118 (by decide)]; exact (Int64.add_zero _).symm)
  · intro k _ hk9 hk M3 hS3 hR3 hp3 hA3 h15 hL3
    refine zj_iload2 (n := 18) rfl dX10_passRound_17 ?_
    refine zj_aload0 (n := 19) rfl dX10_passRound_18 ?_
    refine zj_getiN (e := (vord v 0).1) (n := 22) rfl dX10_passRound_19 zf_X10_161 rfl (by decide) (by decide) hR3.1.1.1 ?_
    refine zj_icmpN_ge (n := 25) (tgt := 45) rfl dX10_passRound_22 (by decide) (by omega) (by omega) (fun c22 => by omega) (fun c22 => ?_)
    refine zj_aload0 (n := 26) rfl dX10_passRound_25 ?_
    refine zj_iload2 (n := 27) rfl dX10_passRound_26 ?_
    refine zj_callV1 (n := 30) (a' := 0) (b' := 0) rfl dX10_passRound_27 zm_X10_202 (by decide) (by decide) rfl (Nat.le_of_ble_eq_true rfl) (Nat.le_of_ble_eq_true rfl) (Nat.le_of_ble_eq_true rfl) (Nat.le_of_ble_eq_true rfl) (jX10_pay hA3 hW hR3 hp3 hk9 ?_)
    intro M4 hO4 hA4 hL4
    refine zj_iload1 (n := 31) rfl dX10_passRound_30 ?_
    refine zj_aload0 (n := 32) rfl dX10_passRound_31 ?_
    refine zj_getr (n := 35) (q := 125) rfl dX10_passRound_32 zf_X10_40 rfl (by decide) (by decide) rfl ?_
    refine zj_iload2 (n := 36) rfl dX10_passRound_35 ?_
    refine zj_ialoadN (e := vunits v 0 k) (n := 37) rfl dX10_passRound_36 (by decide) (by decide) (show k < 10 by omega) (by rw [hO4.1 125 n125]; exact (show M3.1 125 k = nI (vunits v 0 k) from hR3.2.1 k hk9)) ?_
    refine zj_iaddN (n := 38) rfl dX10_passRound_37 ?_
    refine zj_istore1 (n := 39) rfl dX10_passRound_38 rfl (Nat.le_of_ble_eq_true rfl) ?_
    refine zj_iincN2 (n := 42) rfl dX10_passRound_39 rfl (Nat.le_of_ble_eq_true rfl) ?_
    refine zj_goto (tgt := 17) dX10_passRound_42 (by decide) ?_
    exact hk M4 (hS3.tr (zSq.ofOw hO4)) (hO4.rd hA.2.1 hR3) (fun i hi => by rw [hO4.1 126 n126]; exact hp3 i hi) hA4 (by rw [hO4.1 118 n118]; exact h15) (by rw [hL4, hL3, vsum_succ, ← lN_add, Int64.add_assoc])
  · intro M3 hS3 hR3 hp3 hA3 h15 hL3
    refine zj_iload2 (n := 18) rfl dX10_passRound_17 ?_
    refine zj_aload0 (n := 19) rfl dX10_passRound_18 ?_
    refine zj_getiN (e := (vord v 0).1) (n := 22) rfl dX10_passRound_19 zf_X10_161 rfl (by decide) (by decide) hR3.1.1.1 ?_
    refine zj_icmpN_ge (n := 25) (tgt := 45) rfl dX10_passRound_22 (by decide) (by omega) (by omega) (fun c22 => ?_) (fun c22 => by omega)
    refine zj_iconstN_0 (n := 46) rfl dX10_passRound_45 ?_
    refine zj_istore2 (n := 47) rfl dX10_passRound_46 rfl (Nat.le_of_ble_eq_true rfl) ?_
    -- 
    refine zFor_rule (P := fun k (_ : Unit) => ∀ M3, zSq w M M3 → zRd M3 v 0 (vord v 0).1 (vsell v 0) → zRA M3 w (vfix v k).1 → M3.1 118 15 = nI (vfix v k).2 → M3.2.1 118 14 = M.2.1 118 14 + lN (vpaid v) → zJ yX10_passRound cX10_passRound 3 (some .int) rX10_passRound Q X 0 0 47 [some (.ref 118), some (.int (nI (vsold v))), some (.int (nI k))] [] M3) (n := (vord v 0).1) (f := fun _ s => s) (s0 := ()) ?_ ?_ M3 hS3 hR3 hA3 h15 hL3
    · intro k _ hk9 hk M3 hS3 hR3 hA3 h15 hL3
      obtain ⟨b1, b2, b3, b4, b5, b6, b7⟩ := vbidder hW hk9
      obtain ⟨hfx, hf2⟩ := vfix_ok hW k (Nat.le_of_lt hk9)
      -- 
      refine zj_iload2 (n := 48) rfl dX10_passRound_47 ?_
      refine zj_aload0 (n := 49) rfl dX10_passRound_48 ?_
      refine zj_getiN (e := (vord v 0).1) (n := 52) rfl dX10_passRound_49 zf_X10_161 rfl (by decide) (by decide) hR3.1.1.1 ?_
      refine zj_icmpN_ge (n := 55) (tgt := 110) rfl dX10_passRound_52 (by decide) (by omega) (by omega) (fun c52 => by omega) (fun c52 => ?_)
      refine zj_aload0 (n := 56) rfl dX10_passRound_55 ?_
      refine zj_getr (n := 59) (q := w) rfl dX10_passRound_56 zf_X10_24 rfl (by decide) (by decide) hA3.now ?_
      refine zj_sipushN (v := 268) (n := 62) rfl dX10_passRound_59 (by decide) ?_
      refine zj_bipushN (v := 23) (n := 64) rfl dX10_passRound_62 (by decide) ?_
      refine zj_aload0 (n := 65) rfl dX10_passRound_64 ?_
      refine zj_getr (n := 68) (q := 122) rfl dX10_passRound_65 zf_X10_31 rfl (by decide) (by decide) rfl ?_
      refine zj_iload2 (n := 69) rfl dX10_passRound_68 ?_
      refine zj_ialoadN (e := (vord v 0).2 k) (n := 70) rfl dX10_passRound_69 (by decide) (by decide) (show k < 10 by omega) (hR3.1.1.2 k hk9).1 ?_
      refine zj_imulN (n := 71) rfl dX10_passRound_70 ?_
      refine zj_iaddN (n := 72) rfl dX10_passRound_71 ?_
      refine zj_bipushN (v := 6) (n := 74) rfl dX10_passRound_72 (by decide) ?_
      refine zj_iaddN (n := 75) rfl dX10_passRound_74 ?_
      refine zj_dup2 (n := 76) rfl dX10_passRound_75 ?_
      refine zj_ialoadN (e := ((vfix v k).1) ((268 + (23 * ((vord v 0).2 k))) + 6)) (n := 77) rfl dX10_passRound_76 hA.2.1.lt hA.2.1.ty (by rw [hA3.2.1.len]; omega) (hA3.2.2 _ (by omega)) ?_
      refine zj_aload0 (n := 78) rfl dX10_passRound_77 ?_
      refine zj_getr (n := 81) (q := 125) rfl dX10_passRound_78 zf_X10_40 rfl (by decide) (by decide) rfl ?_
      refine zj_iload2 (n := 82) rfl dX10_passRound_81 ?_
      refine zj_ialoadN (e := vunits v 0 k) (n := 83) rfl dX10_passRound_82 (by decide) (by decide) (show k < 10 by omega) (show _ = nI (vunits v 0 k) from hR3.2.1 k hk9) ?_
      refine zj_iaddN (n := 84) rfl dX10_passRound_83 ?_
      refine zj_iastoreN (n := 85) rfl dX10_passRound_84 hA.2.1.lt hA.2.1.ty (by rw [hA3.2.1.len]; omega) ?_
      refine zj_gen (fun M4 => zOw w M3 M4 ∧ zRA M4 w (vadd v (vfix v k).1 k) ∧ M4.2 = M3.2) ⟨zOw.rf.put, hA3.set, rfl⟩ (fun M4 h4 => ?_)
      obtain ⟨hO4, hA4, hL4⟩ := h4
      obtain ⟨a1, a2⟩ := hfx.add hW hk9
      refine zj_aload0 (n := 86) rfl dX10_passRound_85 ?_
      refine zj_dupr (n := 87) rfl dX10_passRound_86 ?_
      refine zj_getiN (e := (vfix v k).2) (n := 90) rfl dX10_passRound_87 zf_X10_199 rfl (by decide) (by decide) (by rw [hO4.1 118 n118]; exact h15) ?_
      refine zj_aload0 (n := 91) rfl dX10_passRound_90 ?_
      refine zj_aload0 (n := 92) rfl dX10_passRound_91 ?_
      refine zj_getr (n := 95) (q := 122) rfl dX10_passRound_92 zf_X10_31 rfl (by decide) (by decide) rfl ?_
      refine zj_iload2 (n := 96) rfl dX10_passRound_95 ?_
      refine zj_ialoadN (e := (vord v 0).2 k) (n := 97) rfl dX10_passRound_96 (by decide) (by decide) (show k < 10 by omega) (by rw [hO4.1 122 n122]; exact (hR3.1.1.2 k hk9).1) ?_
      refine zj_callV1 (n := 100) (a' := 0) (b' := 0) rfl dX10_passRound_97 zm_X10_206 (by decide) (by decide) rfl (Nat.le_of_ble_eq_true rfl) (Nat.le_of_ble_eq_true rfl) (Nat.le_of_ble_eq_true rfl) (Nat.le_of_ble_eq_true rfl) (jX10_repair hA4 a1 ((hS3.ofO hO4).td hA.2.1 hd) (show (vord v 0).2 k < vadd v (vfix v k).1 k 8 by rw [a2 8 (by omega), hfx.low hW (by omega)]; exact b1) ?_)
      intro M5 hO5 hA5 hL5
      refine zj_iaddN (n := 101) rfl dX10_passRound_100 ?_
      refine zj_puti (n := 104) rfl dX10_passRound_101 zp_X10_199 rfl (by decide) (by decide) ?_
      refine zj_iincN2 (n := 107) rfl dX10_passRound_104 rfl (Nat.le_of_ble_eq_true rfl) ?_
      refine zj_goto (tgt := 47) dX10_passRound_107 (by decide) ?_
      rw [vfix_succ] at hk
      dsimp only at hk
      exact hk _ ((hS3.tr (zSq.ofOw (hO4.tr hO5))).tr zSq.put15) (zRd.p15 ((hO4.tr hO5).rd hA.2.1 hR3)) (hA5.off (by decide)) (by dsimp only; rw [zU_eq]) (by show M5.2.1 118 14 = _; rw [hL5, hL4]; exact hL3)
    · intro M3 hS3 hR3 hA3 h15 hL3
      obtain ⟨hfx, hf2⟩ := vfix_ok hW _ (Nat.le_refl _)
      -- 
      refine zj_iload2 (n := 48) rfl dX10_passRound_47 ?_
      refine zj_aload0 (n := 49) rfl dX10_passRound_48 ?_
      refine zj_getiN (e := (vord v 0).1) (n := 52) rfl dX10_passRound_49 zf_X10_161 rfl (by decide) (by decide) hR3.1.1.1 ?_
      refine zj_icmpN_ge (n := 55) (tgt := 110) rfl dX10_passRound_52 (by decide) (by omega) (by omega) (fun c52 => ?_) (fun c52 => by omega)
      refine zj_aload0 (n := 111) rfl dX10_passRound_110 ?_
      refine zj_getr (n := 114) (q := w) rfl dX10_passRound_111 zf_X10_24 rfl (by decide) (by decide) hA3.now ?_
      refine zj_iconstN_4 (n := 115) rfl dX10_passRound_114 ?_
      refine zj_aload0 (n := 116) rfl dX10_passRound_115 ?_
      refine zj_getiN (e := (vsell v 0).1) (n := 119) rfl dX10_passRound_116 zf_X10_181 rfl (by decide) (by decide) hR3.2.2.2 ?_
      refine zj_aload0 (n := 120) rfl dX10_passRound_119 ?_
      refine zj_getr (n := 123) (q := w) rfl dX10_passRound_120 zf_X10_24 rfl (by decide) (by decide) hA3.now ?_
      refine zj_iconstN_1 (n := 124) rfl dX10_passRound_123 ?_
      refine zj_ialoadN (e := v 1) (n := 125) rfl dX10_passRound_124 hA.2.1.lt hA.2.1.ty (by rw [hA3.2.1.len]; omega) (by rw [hA3.2.2 1 (by decide)]; exact congrArg nI (hfx.low hW (by decide))) ?_
      refine zj_iminN (n := 128) rfl dX10_passRound_125 zm_X10_170 (by decide) (Nat.le_of_ble_eq_true rfl) (by first | omega | (have := hW.1; have := hW.2.2.2.2.1; have := hW.2.1; have := (vsell_ok hW 0).1; omega)) (by first | omega | (have := hW.1; have := hW.2.2.2.2.1; have := hW.2.1; have := (vsell_ok hW 0).1; omega)) ?_
      refine zj_iastoreN (n := 129) rfl dX10_passRound_128 hA.2.1.lt hA.2.1.ty (by rw [hA3.2.1.len]; omega) ?_
      refine zj_gen (fun M5 => zOw w M3 M5 ∧ zRA M5 w (vend v) ∧ M5.2 = M3.2) ⟨zOw.rf.put, hA3.set, rfl⟩ (fun M5 h5 => ?_)
      obtain ⟨hO5, hA5, hL5⟩ := h5
      have hvw := vend_wf hW
      have hc5 : M5.1 118 12 = nI (vclr v) := by rw [hO5.1 118 n118]; exact hR3.2.2.1
      have hm5 : M5.1 118 11 = nI (vord v 0).1 := by rw [hO5.1 118 n118]; exact hR3.1.1.1
      refine zj_aload0 (n := 130) rfl dX10_passRound_129 ?_
      refine zj_iload1 (n := 131) rfl dX10_passRound_130 ?_
      refine zj_aload0 (n := 132) rfl dX10_passRound_131 ?_
      refine zj_getiN (e := vrepd v) (n := 135) rfl dX10_passRound_132 zf_X10_199 rfl (by decide) (by decide) (by rw [hO5.1 118 n118]; exact h15) ?_
      refine zj_callV2 (n := 138) (a' := 0) (b' := 0) rfl dX10_passRound_135 zm_X10_209 (by decide) (by decide) rfl (Nat.le_of_ble_eq_true rfl) (Nat.le_of_ble_eq_true rfl) (Nat.le_of_ble_eq_true rfl) (Nat.le_of_ble_eq_true rfl) (jX10_record hA5 hvw.hN hc5 hm5 ?_)
      intro M6 hO6 hA6 hL6
      have e5 : vrecord (vend v) (vsold v) (vclr v) (vord v 0).1 (vrepd v) 5 = v 5 := by rw [vrecord_low (by decide) (by decide)]; unfold vend; rw [vset_off (by decide)]; exact hfx.low hW (by decide)
      refine zj_aload0 (n := 139) rfl dX10_passRound_138 ?_
      refine zj_getr (n := 142) (q := w) rfl dX10_passRound_139 zf_X10_24 rfl (by decide) (by decide) hA6.now ?_
      refine zj_iconstN_5 (n := 143) rfl dX10_passRound_142 ?_
      refine zj_dup2 (n := 144) rfl dX10_passRound_143 ?_
      refine zj_ialoadN (e := v 5) (n := 145) rfl dX10_passRound_144 hA.2.1.lt hA.2.1.ty (by rw [hA6.2.1.len]; omega) (by rw [hA6.2.2 5 (by decide), e5]) ?_
      refine zj_iconstN_1 (n := 146) rfl dX10_passRound_145 ?_
      refine zj_iaddN (n := 147) rfl dX10_passRound_146 ?_
      refine zj_iastoreN (n := 148) rfl dX10_passRound_147 hA.2.1.lt hA.2.1.ty (by rw [hA6.2.1.len]; omega) ?_
      refine zj_iload1 (n := 149) rfl dX10_passRound_148 ?_
      exact zj_ireturn dX10_passRound_149 rfl rfl (h _ (((hS3.tr (zSq.ofOw hO5)).tr (zSq.ofOw hO6)).tr (zSq.ofOw zOw.rf.put)) (hA6.set) (by dsimp only; rw [zU_ne n118, hO6.1 118 n118, hO5.1 118 n118]; exact h15) (by show M6.2.1 118 14 = _; rw [hL6, hL5]; exact hL3))
