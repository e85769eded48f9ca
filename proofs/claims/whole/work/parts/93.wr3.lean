/-! THE CLASS: the bids written -/
def zWo (M M' : zM) : Prop := (∀ a, ¬ (105 ≤ a ∧ a ≤ 109) → a ≠ 102 → a ≠ 103 → M'.1 a = M.1 a) ∧ (∀ c, c ≠ 107 → M'.2.1 c = M.2.1 c) ∧ M'.2.2 = M.2.2
set_option maxRecDepth 100000 in
set_option maxHeartbeats 4000000 in
theorem jX9_writeBids {v : zV} {Q : Option Value → zM → Prop} {X : String → zM → Prop} {M : zM} (hC : zCl M v) (hW : zWF v) (hN : zNmS v) (h : ∀ M', zWo M M' → zCl M' v → zBy M' 102 (wAll v).1 (wAll v).2 → Q (some (.int (nI (wAll v).1))) M') : zJ yX9_writeBids cX9_writeBids 3 (some .int) rX9_writeBids Q X rX9_writeBids.cells rX9_writeBids.slots 0 (zEnt 3 [.ref 99]) [] M := by
  have hk9 := vord_le hW 0
  show zJ yX9_writeBids cX9_writeBids 3 (some .int) rX9_writeBids Q X 0 0 0 [some (.ref 99), none, none] [] M
  refine zj_aload0 (n := 1) rfl dX9_writeBids_0 ?_
  refine zj_getr (n := 4) (q := 105) rfl dX9_writeBids_1 zf_X9_40 rfl (by decide) rfl rfl ?_
  refine zj_aload0 (n := 5) rfl dX9_writeBids_4 ?_
  refine zj_getr (n := 8) (q := 0) rfl dX9_writeBids_5 zf_X9_33 rfl (by decide) rfl rfl ?_
  refine zj_callV1 (n := 11) (a' := 0) (b' := 0) rfl dX9_writeBids_8 zm_X9_209 (by decide) (by decide) rfl (Nat.le_of_ble_eq_true rfl) (Nat.le_of_ble_eq_true rfl) (Nat.le_of_ble_eq_true rfl) (Nat.le_of_ble_eq_true rfl) (jX0_hold hC.2.2.1 hC.1 hW ?_)
  intro M1 hA1 hH1
  refine zj_aload0 (n := 12) rfl dX9_writeBids_11 ?_
  refine zj_getr (n := 15) (q := 102) rfl dX9_writeBids_12 zf_X9_18 rfl (by decide) rfl rfl ?_
  refine zj_iconstN_0 (n := 16) rfl dX9_writeBids_15 ?_
  refine zj_callV1 (n := 19) (a' := 0) (b' := 0) rfl dX9_writeBids_16 zm_X9_76 (by decide) (by decide) rfl (Nat.le_of_ble_eq_true rfl) (Nat.le_of_ble_eq_true rfl) (Nat.le_of_ble_eq_true rfl) (Nat.le_of_ble_eq_true rfl) (jX1_cut (m := 0) (Or.inr rfl) ?_)
  refine zj_gen (P := fun M2 => zOf 102 M1 M2 ∧ zBy M2 102 0 (fun _ => 0)) ⟨⟨fun a h1 h2 => zU_off h1, rfl⟩, zBy.z0 (n := 0) (Or.inr rfl)⟩ ?_
  intro M2 h2
  obtain ⟨hF2, hB2⟩ := h2
  have hR1 := hA1.rg (Or.inl rfl) hC.1
  have hR2 := hF2.rg (by decide) hR1
  have hM2 := hF2.mb (by decide) hH1.1
  refine zj_iconstN_0 (n := 20) rfl dX9_writeBids_19 ?_
  refine zj_istore1 (n := 21) rfl dX9_writeBids_20 rfl (Nat.le_of_ble_eq_true rfl) ?_
  refine zFor_rule (P := fun k (_ : Unit) => ∀ M3, zOf 102 M2 M3 → zBy M3 102 (wBids v k).1 (wBids v k).2 → zJ yX9_writeBids cX9_writeBids 3 (some .int) rX9_writeBids Q X 0 0 21 [some (.ref 99), some (.int (nI k)), none] [] M3) (n := (vord v 0).1) (f := fun _ s => s) (s0 := ()) ?_ ?_ M2 zOf.rf hB2
  · intro k _ hi hk M3 hF3 hB3
    have hR3 := hF3.rg (by decide) hR2
    have hM3 := hF3.mb (by decide) hM2
    refine zj_iload1 (n := 22) rfl dX9_writeBids_21 ?_
    refine zj_aload0 (n := 23) rfl dX9_writeBids_22 ?_
    refine zj_getr (n := 26) (q := 105) rfl dX9_writeBids_23 zf_X9_40 rfl (by decide) rfl rfl ?_
    refine zj_getr (n := 29) (q := 108) rfl dX9_writeBids_26 zf_X9_212 rfl (by decide) rfl rfl ?_
    refine zj_getiN (e := (vord v 0).1) (n := 32) rfl dX9_writeBids_29 zf_X9_95 rfl (by decide) rfl hM3.1.2.2.2.1 ?_
    refine zj_icmpN_ge (n := 35) (tgt := 133) rfl dX9_writeBids_32 (by decide) (by omega) (by omega) (fun c32 => by omega) (fun c32 => ?_)
    have hg := vord_g c32
    have hv1 := voffer_le v 0 ((vord v 0).2 k)
    have hv2 := (vneed_le hW (d := 0) hg).1
    have hs0 := (wBids_ok hW hN k (by omega)).1
    have hs1 := wName_le (v := v) (b := 268 + 23 * (vord v 0).2 k + 17) (s := wBids v k) 6
    have hs2 : (tps (wName v (268 + 23 * (vord v 0).2 k + 17) 6 (wBids v k)) 58).1 = (wName v (268 + 23 * (vord v 0).2 k + 17) 6 (wBids v k)).1 + 1 := rfl
    have hs3 := wNum_le (x := voffer v 0 ((vord v 0).2 k)) (s := tps (wName v (268 + 23 * (vord v 0).2 k + 17) 6 (wBids v k)) 58) (by omega) 10
    have hs4 : (tps (wNum (voffer v 0 ((vord v 0).2 k)) 10 (tps (wName v (268 + 23 * (vord v 0).2 k + 17) 6 (wBids v k)) 58)) 47).1 = (wNum (voffer v 0 ((vord v 0).2 k)) 10 (tps (wName v (268 + 23 * (vord v 0).2 k + 17) 6 (wBids v k)) 58)).1 + 1 := rfl
    have hs5 := wNum_le (x := vneed v 0 ((vord v 0).2 k)) (s := tps (wNum (voffer v 0 ((vord v 0).2 k)) 10 (tps (wName v (268 + 23 * (vord v 0).2 k + 17) 6 (wBids v k)) 58)) 47) (by omega) 10
    have hk10 := vord_le hW 0
    have hz : zLen (102 + 1) = 200 := rfl
    have hnm := (hN.2.2 _ hg).nlt
    have hgm := hR3.g.nm hg
    refine zj_aload0 (n := 36) rfl dX9_writeBids_35 ?_
    refine zj_getr (n := 39) (q := 105) rfl dX9_writeBids_36 zf_X9_40 rfl (by decide) rfl rfl ?_
    refine zj_getr (n := 42) (q := 108) rfl dX9_writeBids_39 zf_X9_212 rfl (by decide) rfl rfl ?_
    refine zj_iload1 (n := 43) rfl dX9_writeBids_42 ?_
    refine zj_iconstN_0 (n := 44) rfl dX9_writeBids_43 ?_
    refine zj_callV2 (n := 47) (a' := 0) (b' := 0) rfl dX9_writeBids_44 zm_X9_126 (by decide) (by decide) rfl (Nat.le_of_ble_eq_true rfl) (Nat.le_of_ble_eq_true rfl) (Nat.le_of_ble_eq_true rfl) (Nat.le_of_ble_eq_true rfl) (jT_get (e := (vord v 0).2 k) hM3.1 c32 (by decide) (hM3.2 _ c32).1 ?_)
    refine zj_istore2 (n := 48) rfl dX9_writeBids_47 rfl (Nat.le_of_ble_eq_true rfl) ?_
    refine zj_aload0 (n := 49) rfl dX9_writeBids_48 ?_
    refine zj_getr (n := 52) (q := 102) rfl dX9_writeBids_49 zf_X9_18 rfl (by decide) rfl rfl ?_
    refine zj_aload0 (n := 53) rfl dX9_writeBids_52 ?_
    refine zj_getr (n := 56) (q := 0) rfl dX9_writeBids_53 zf_X9_33 rfl (by decide) rfl rfl ?_
    refine zj_getr (n := 59) (q := 5) rfl dX9_writeBids_56 zf_X9_91 rfl (by decide) rfl rfl ?_
    refine zj_iload2 (n := 60) rfl dX9_writeBids_59 ?_
    refine zj_callV1 (n := 63) (a' := 0) (b' := 0) rfl dX9_writeBids_60 zm_X9_323 (by decide) (by decide) rfl (Nat.le_of_ble_eq_true rfl) (Nat.le_of_ble_eq_true rfl) (Nat.le_of_ble_eq_true rfl) (Nat.le_of_ble_eq_true rfl) (jX7_nameOf (e := vname v (268 + 23 * (vord v 0).2 k + 17)) hR3.g.1 hg hgm ?_)
    refine zj_callV1 (n := 66) (a' := 0) (b' := 0) rfl dX9_writeBids_63 zm_X9_326 (by decide) (by decide) rfl (Nat.le_of_ble_eq_true rfl) (Nat.le_of_ble_eq_true rfl) (Nat.le_of_ble_eq_true rfl) (Nat.le_of_ble_eq_true rfl) (jX1_addName (by omega) hB3 (by omega) ?_)
    intro M4 hF4 hB4
    rw [nmX_is (hN.2.2 _ hg)] at hB4
    refine zj_aload0 (n := 67) rfl dX9_writeBids_66 ?_
    refine zj_getr (n := 70) (q := 102) rfl dX9_writeBids_67 zf_X9_18 rfl (by decide) rfl rfl ?_
    refine zj_bipushN (v := 58) (n := 72) rfl dX9_writeBids_70 (by decide) ?_
    refine zj_callV1 (n := 75) (a' := 0) (b' := 0) rfl dX9_writeBids_72 zm_X9_329 (by decide) (by decide) rfl (Nat.le_of_ble_eq_true rfl) (Nat.le_of_ble_eq_true rfl) (Nat.le_of_ble_eq_true rfl) (Nat.le_of_ble_eq_true rfl) (jX1_addS hB4 (by decide) (by omega) ?_)
    intro M5 hF5 hB5
    have hF35 := hF4.tr hF5
    have hM5 := hF35.mb (by decide) hM3
    refine zj_aload0 (n := 76) rfl dX9_writeBids_75 ?_
    refine zj_getr (n := 79) (q := 102) rfl dX9_writeBids_76 zf_X9_18 rfl (by decide) rfl rfl ?_
    refine zj_aload0 (n := 80) rfl dX9_writeBids_79 ?_
    refine zj_getr (n := 83) (q := 105) rfl dX9_writeBids_80 zf_X9_40 rfl (by decide) rfl rfl ?_
    refine zj_getr (n := 86) (q := 108) rfl dX9_writeBids_83 zf_X9_212 rfl (by decide) rfl rfl ?_
    refine zj_iload1 (n := 87) rfl dX9_writeBids_86 ?_
    refine zj_iconstN_1 (n := 88) rfl dX9_writeBids_87 ?_
    refine zj_callV2 (n := 91) (a' := 0) (b' := 0) rfl dX9_writeBids_88 zm_X9_126 (by decide) (by decide) rfl (Nat.le_of_ble_eq_true rfl) (Nat.le_of_ble_eq_true rfl) (Nat.le_of_ble_eq_true rfl) (Nat.le_of_ble_eq_true rfl) (jT_get (e := voffer v 0 ((vord v 0).2 k)) hM5.1 c32 (by decide) (hM5.2 _ c32).2 ?_)
    refine zj_callV1 (n := 94) (a' := 0) (b' := 0) rfl dX9_writeBids_91 zm_X9_332 (by decide) (by decide) rfl (Nat.le_of_ble_eq_true rfl) (Nat.le_of_ble_eq_true rfl) (Nat.le_of_ble_eq_true rfl) (Nat.le_of_ble_eq_true rfl) (jX1_addNumber (by omega) hB5 (by omega) ?_)
    intro M6 hF6 hB6
    refine zj_aload0 (n := 95) rfl dX9_writeBids_94 ?_
    refine zj_getr (n := 98) (q := 102) rfl dX9_writeBids_95 zf_X9_18 rfl (by decide) rfl rfl ?_
    refine zj_bipushN (v := 47) (n := 100) rfl dX9_writeBids_98 (by decide) ?_
    refine zj_callV1 (n := 103) (a' := 0) (b' := 0) rfl dX9_writeBids_100 zm_X9_329 (by decide) (by decide) rfl (Nat.le_of_ble_eq_true rfl) (Nat.le_of_ble_eq_true rfl) (Nat.le_of_ble_eq_true rfl) (Nat.le_of_ble_eq_true rfl) (jX1_addS hB6 (by decide) (by omega) ?_)
    intro M7 hF7 hB7
    have hF37 := hF35.tr (hF6.tr hF7)
    have hR7 := hF37.rg (by decide) hR3
    refine zj_aload0 (n := 104) rfl dX9_writeBids_103 ?_
    refine zj_getr (n := 107) (q := 102) rfl dX9_writeBids_104 zf_X9_18 rfl (by decide) rfl rfl ?_
    refine zj_aload0 (n := 108) rfl dX9_writeBids_107 ?_
    refine zj_getr (n := 111) (q := 0) rfl dX9_writeBids_108 zf_X9_33 rfl (by decide) rfl rfl ?_
    refine zj_iload2 (n := 112) rfl dX9_writeBids_111 ?_
    refine zj_callV1 (n := 115) (a' := 0) (b' := 0) rfl dX9_writeBids_112 zm_X9_148 (by decide) (by decide) rfl (Nat.le_of_ble_eq_true rfl) (Nat.le_of_ble_eq_true rfl) (Nat.le_of_ble_eq_true rfl) (Nat.le_of_ble_eq_true rfl) (jX6_needOf hR7 hW hg ?_)
    refine zj_callV1 (n := 118) (a' := 0) (b' := 0) rfl dX9_writeBids_115 zm_X9_332 (by decide) (by decide) rfl (Nat.le_of_ble_eq_true rfl) (Nat.le_of_ble_eq_true rfl) (Nat.le_of_ble_eq_true rfl) (Nat.le_of_ble_eq_true rfl) (jX1_addNumber (by omega) hB7 (by omega) ?_)
    intro M8 hF8 hB8
    refine zj_aload0 (n := 119) rfl dX9_writeBids_118 ?_
    refine zj_getr (n := 122) (q := 102) rfl dX9_writeBids_119 zf_X9_18 rfl (by decide) rfl rfl ?_
    refine zj_bipushN (v := 10) (n := 124) rfl dX9_writeBids_122 (by decide) ?_
    refine zj_callV1 (n := 127) (a' := 0) (b' := 0) rfl dX9_writeBids_124 zm_X9_329 (by decide) (by decide) rfl (Nat.le_of_ble_eq_true rfl) (Nat.le_of_ble_eq_true rfl) (Nat.le_of_ble_eq_true rfl) (Nat.le_of_ble_eq_true rfl) (jX1_addS hB8 (by decide) (by omega) ?_)
    intro M9 hF9 hB9
    refine zj_iincN1 (n := 130) rfl dX9_writeBids_127 rfl (Nat.le_of_ble_eq_true rfl) ?_
    refine zj_goto (tgt := 21) dX9_writeBids_130 (by decide) ?_
    refine zj_keep [true, true, false] ?_
    exact hk M9 (hF3.tr (hF37.tr (hF8.tr hF9))) hB9
  · intro M3 hF3 hB3
    have hM3 := hF3.mb (by decide) hM2
    refine zj_iload1 (n := 22) rfl dX9_writeBids_21 ?_
    refine zj_aload0 (n := 23) rfl dX9_writeBids_22 ?_
    refine zj_getr (n := 26) (q := 105) rfl dX9_writeBids_23 zf_X9_40 rfl (by decide) rfl rfl ?_
    refine zj_getr (n := 29) (q := 108) rfl dX9_writeBids_26 zf_X9_212 rfl (by decide) rfl rfl ?_
    refine zj_getiN (e := (vord v 0).1) (n := 32) rfl dX9_writeBids_29 zf_X9_95 rfl (by decide) rfl hM3.1.2.2.2.1 ?_
    refine zj_icmpN_ge (n := 35) (tgt := 133) rfl dX9_writeBids_32 (by decide) (by omega) (by omega) (fun c32 => ?_) (fun c32 => by omega)
    refine zj_aload0 (n := 134) rfl dX9_writeBids_133 ?_
    refine zj_getr (n := 137) (q := 102) rfl dX9_writeBids_134 zf_X9_18 rfl (by decide) rfl rfl ?_
    refine zj_getiN (e := (wAll v).1) (n := 140) rfl dX9_writeBids_137 zf_X9_58 rfl (by decide) (by decide) hB3.2.1 ?_
    refine zj_ireturn dX9_writeBids_140 rfl rfl ?_
    have hF13 : zOf 102 M1 M3 := hF2.tr hF3
    exact h M3 ⟨fun a q1 q2 q3 => by rw [hF13.1 a q2 q3]; exact hA1.1 a (by omega) (by omega) (by omega), fun c q => by rw [hF13.2]; exact hA1.2.1 c q, by rw [hF13.2]; exact hA1.2.2⟩ ⟨hF13.rg (by decide) hR1, hC.2.1.cg (fun a q1 q2 => by rw [hF13.1 a (by omega) (by omega)]; exact hA1.1 a (by omega) (by omega) (by omega)), ⟨Or.inl rfl, _, hM3.1⟩, hC.2.2.2.cg (by rw [hF13.1 _ (by decide) (by decide)]; exact hA1.1 _ (by decide) (by decide) (by decide))⟩ hB3
