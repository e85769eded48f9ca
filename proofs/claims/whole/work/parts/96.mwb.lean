/-! THE MODEL: the bids written -/
def zGwI (a j : Nat) : Bool := zSrI a j || a == 130 || (a == 118 && (j == 0 || j == 29))
def zGw (M M' : zM) : Prop := (∀ a j, zGwI a j = false → M'.1 a j = M.1 a j) ∧ (∀ a, a ≠ 121 → M'.2.1 a = M.2.1 a) ∧ M'.2.2 = M.2.2
theorem zGo.row {M M1 : zM} {a : Nat} (h : zGo M M1) (h1 : a ≠ 118) (h2 : a ≠ 130) : M1.1 a = M.1 a := h.1 a h1 h2
theorem wName_end {v : zV} {b i : Nat} {s : Nat × (Nat → Nat)} (hn : zNam v b) (h0 : v (b + i) = 0) : ∀ m, i ≤ m → m ≤ 6 → wName v b m s = wName v b i s := by
  intro m
  induction m with
  | zero => intro h _; have : i = 0 := by omega
            subst this; rfl
  | succ m ih =>
    intro h1 h2
    rcases Nat.lt_or_ge i (m + 1) with q | q
    · rw [wName_succ, if_pos, ih (by omega) (by omega)]
      obtain ⟨L, g1, g6, gL, g0⟩ := hn
      have : L ≤ i := by
        rcases Nat.lt_or_ge i L with w | w
        · have := gL i w; omega
        · exact w
      exact g0 m (by omega) (by omega)
    · have : i = m + 1 := by omega
      subst this; rfl
theorem zNam.b {v : zV} {b i : Nat} (hn : zNam v b) (hi : i < 6) : v (b + i) < 128 := by
  obtain ⟨L, g1, g6, gL, g0⟩ := hn
  rcases Nat.lt_or_ge i L with w | w
  · have := gL i w; omega
  · rw [g0 i w hi]; decide
theorem z_wbn {v : zV} {k : Nat} {s : Nat × (Nat → Nat)} {Q : Option Value → zM → Prop} {X : String → zM → Prop} {M : zM} (hA : zRA M 119 v) (hg : (vord v 0).2 k < 10) (hk10 : k < 10) (hb : M.1 122 k = nI ((vord v 0).2 k)) (hn : zNam v (268 + 23 * (vord v 0).2 k + 17)) (hO : zMo M s) (hr : s.1 + 6 ≤ 200) (h : ∀ M', zGo M M' → zMo M' (wName v (268 + 23 * (vord v 0).2 k + 17) 6 s) → zJ yX10_writeBids cX10_writeBids 3 (some .int) rX10_writeBids Q X 0 0 73 [some (.ref 118), some (.int (nI k)), none] [] M') : zJ yX10_writeBids cX10_writeBids 3 (some .int) rX10_writeBids Q X 0 0 26 [some (.ref 118), some (.int (nI k)), some (.int (nI 0))] [] M := by
  refine zFind_rule (P := fun i => ∀ M1, zGo M M1 → zMo M1 (wName v (268 + 23 * (vord v 0).2 k + 17) i s) → zJ yX10_writeBids cX10_writeBids 3 (some .int) rX10_writeBids Q X 0 0 26 [some (.ref 118), some (.int (nI k)), some (.int (nI i))] [] M1) (n := 6) (p := fun i => decide (v (268 + 23 * (vord v 0).2 k + 17 + i) = 0)) ?_ ?_ M zGo.rf hO
  · intro i hi hf hkk M1 hF1 hO1
    have hA1 := hF1.ra hA
    have hb1 : M1.1 122 k = nI ((vord v 0).2 k) := by rw [hF1.1 122 (by decide) (by decide)]; exact hb
    refine zj_iload2 (n := 27) rfl dX10_writeBids_26 ?_
    refine zj_bipushN (v := 6) (n := 29) rfl dX10_writeBids_27 (by decide) ?_
    refine zj_icmpN_ge (n := 32) (tgt := 73) rfl dX10_writeBids_29 (by decide) (by omega) (by omega) (fun c29 => by omega) (fun c29 => ?_)
    refine zj_aload0 (n := 33) rfl dX10_writeBids_32 ?_
    refine zj_aload0 (n := 34) rfl dX10_writeBids_33 ?_
    refine zj_getr (n := 37) (q := 122) rfl dX10_writeBids_34 zf_X10_31 rfl (by decide) (by decide) rfl ?_
    refine zj_iload1 (n := 38) rfl dX10_writeBids_37 ?_
    refine zj_ialoadN (e := (vord v 0).2 k) (n := 39) rfl dX10_writeBids_38 (by decide) (by decide) (by rw [show zLen 122 = 10 from rfl]; omega) hb1 ?_
    refine zj_bipushN (v := 17) (n := 41) rfl dX10_writeBids_39 (by decide) ?_
    refine zj_iload2 (n := 42) rfl dX10_writeBids_41 ?_
    refine zj_iaddN (n := 43) rfl dX10_writeBids_42 ?_
    refine zj_callV2 (n := 46) (a' := 0) (b' := 0) rfl dX10_writeBids_43 zm_X10_66 (by decide) (by decide) rfl (Nat.le_of_ble_eq_true rfl) (Nat.le_of_ble_eq_true rfl) (Nat.le_of_ble_eq_true rfl) (Nat.le_of_ble_eq_true rfl) (jX10_groupValue (c := 17 + i) hA1 (by omega) ?_)
    refine zj_ifN_eq (n := 49) (tgt := 73) rfl dX10_writeBids_46 (by decide) (by have := hn.b hi; rw [show 268 + 23 * (vord v 0).2 k + (17 + i) = 268 + 23 * (vord v 0).2 k + 17 + i by omega]; omega) (fun c46 => ?_) (fun c46 => ?_)
    · refine zj_keep [true, true, false] ?_
      have hz : v (268 + 23 * (vord v 0).2 k + 17 + i) = 0 := by rw [show 268 + 23 * (vord v 0).2 k + 17 + i = 268 + 23 * (vord v 0).2 k + (17 + i) by omega]; omega
      exact h M1 hF1 (by rw [wName_end hn hz 6 (by omega) (Nat.le_refl _)]; exact hO1)
    · refine zj_aload0 (n := 50) rfl dX10_writeBids_49 ?_
      refine zj_aload0 (n := 51) rfl dX10_writeBids_50 ?_
      refine zj_aload0 (n := 52) rfl dX10_writeBids_51 ?_
      refine zj_getr (n := 55) (q := 122) rfl dX10_writeBids_52 zf_X10_31 rfl (by decide) (by decide) rfl ?_
      refine zj_iload1 (n := 56) rfl dX10_writeBids_55 ?_
      refine zj_ialoadN (e := (vord v 0).2 k) (n := 57) rfl dX10_writeBids_56 (by decide) (by decide) (by rw [show zLen 122 = 10 from rfl]; omega) hb1 ?_
      refine zj_bipushN (v := 17) (n := 59) rfl dX10_writeBids_57 (by decide) ?_
      refine zj_iload2 (n := 60) rfl dX10_writeBids_59 ?_
      refine zj_iaddN (n := 61) rfl dX10_writeBids_60 ?_
      refine zj_callV2 (n := 64) (a' := 0) (b' := 0) rfl dX10_writeBids_61 zm_X10_66 (by decide) (by decide) rfl (Nat.le_of_ble_eq_true rfl) (Nat.le_of_ble_eq_true rfl) (Nat.le_of_ble_eq_true rfl) (Nat.le_of_ble_eq_true rfl) (jX10_groupValue (c := 17 + i) hA1 (by omega) ?_)
      rw [show 268 + 23 * (vord v 0).2 k + (17 + i) = 268 + 23 * (vord v 0).2 k + 17 + i by omega]
      refine zj_callV1 (n := 67) (a' := 0) (b' := 0) rfl dX10_writeBids_64 zm_X10_476 (by decide) (by decide) rfl (Nat.le_of_ble_eq_true rfl) (Nat.le_of_ble_eq_true rfl) (Nat.le_of_ble_eq_true rfl) (Nat.le_of_ble_eq_true rfl) (jX10_write hO1 (by have := hn.b hi; omega) (by have := wName_le (v := v) (b := 268 + 23 * (vord v 0).2 k + 17) (s := s) i; omega) ?_)
      intro M2 hF2 hO2
      refine zj_iincN2 (n := 70) rfl dX10_writeBids_67 rfl (Nat.le_of_ble_eq_true rfl) ?_
      refine zj_goto (tgt := 26) dX10_writeBids_70 (by decide) ?_
      have hz : ¬ v (268 + 23 * (vord v 0).2 k + 17 + i) = 0 := by rw [show 268 + 23 * (vord v 0).2 k + 17 + i = 268 + 23 * (vord v 0).2 k + (17 + i) by omega]; omega
      exact hkk (decide_eq_false hz) M2 (hF1.tr hF2) (by rw [wName_succ, if_neg hz]; exact hO2)
  · intro hf M1 hF1 hO1
    refine zj_iload2 (n := 27) rfl dX10_writeBids_26 ?_
    refine zj_bipushN (v := 6) (n := 29) rfl dX10_writeBids_27 (by decide) ?_
    refine zj_icmpN_ge (n := 32) (tgt := 73) rfl dX10_writeBids_29 (by decide) (by omega) (by omega) (fun c29 => ?_) (fun c29 => by omega)
    refine zj_keep [true, true, false] ?_
    exact h M1 hF1 hO1
set_option maxRecDepth 100000 in
set_option maxHeartbeats 4000000 in
theorem jX10_writeBids {v : zV} {Q : Option Value → zM → Prop} {X : String → zM → Prop} {M : zM} (hA : zRA M 119 v) (hW : zWF v) (hN : zNmS v) (hd : M.1 118 4 = nI 0) (h : ∀ M', zGw M M' → M'.1 118 0 = nI 0 → zMo M' (wAll v) → Q (some (.int (nI (wAll v).1))) M') : zJ yX10_writeBids cX10_writeBids 3 (some .int) rX10_writeBids Q X rX10_writeBids.cells rX10_writeBids.slots 0 (zEnt 3 [.ref 118]) [] M := by
  have hk9 := vord_le hW 0
  show zJ yX10_writeBids cX10_writeBids 3 (some .int) rX10_writeBids Q X 0 0 0 [some (.ref 118), none, none] [] M
  refine zj_aload0 (n := 1) rfl dX10_writeBids_0 ?_
  refine zj_iconstN_0 (n := 2) rfl dX10_writeBids_1 ?_
  refine zj_puti (n := 5) rfl dX10_writeBids_2 zp_X10_3 rfl (by decide) (by decide) ?_
  refine zj_aload0 (n := 6) rfl dX10_writeBids_5 ?_
  refine zj_callV0 (n := 9) (a' := 0) (b' := 0) rfl dX10_writeBids_6 zm_X10_175 (by decide) (by decide) rfl (Nat.le_of_ble_eq_true rfl) (Nat.le_of_ble_eq_true rfl) (Nat.le_of_ble_eq_true rfl) (Nat.le_of_ble_eq_true rfl) (jX10_layBids (M := (zU M.1 118 0 (nI 0), M.2)) (hA.off (by decide)) hW (by dsimp only; rw [zU_nj (by decide)]; exact hd) (by decide) ?_)
  intro M1 hS1 hB1 hN1
  refine zj_aload0 (n := 10) rfl dX10_writeBids_9 ?_
  refine zj_iconstN_0 (n := 11) rfl dX10_writeBids_10 ?_
  refine zj_puti (n := 14) rfl dX10_writeBids_11 zp_X10_473 rfl (by decide) (by decide) ?_
  refine zj_gen (P := fun M2 => (∀ a, a ≠ 118 → M2.1 a = M1.1 a) ∧ (∀ j, j ≠ 29 → M2.1 118 j = M1.1 118 j) ∧ M2.2 = M1.2 ∧ zMo M2 (wBids v 0)) ⟨fun a h1 => zU_off h1, fun j h1 => by dsimp only; rw [zU_nj h1], rfl, zUe, fun j hj => absurd hj (Nat.not_lt_zero j)⟩ ?_
  intro M2 h2_
  obtain ⟨e2, e2b, e2s, hO2⟩ := h2_
  have hA1 : zRA M1 119 v := by
    have hA0 := hA.off (k := 118) (j := 0) (x := nI 0) (by decide)
    exact ⟨by rw [hS1.2.2]; exact hA0.1, hA.2.1, fun j hj => by rw [hS1.1 119 j (by unfold zSrI; rfl)]; exact hA0.2.2 j hj⟩
  have hA2 : zRA M2 119 v := ⟨by rw [e2s]; exact hA1.1, hA.2.1, fun j hj => by rw [e2 119 (by decide)]; exact hA1.2.2 j hj⟩
  refine zj_iconstN_0 (n := 15) rfl dX10_writeBids_14 ?_
  refine zj_istore1 (n := 16) rfl dX10_writeBids_15 rfl (Nat.le_of_ble_eq_true rfl) ?_
  refine zFor_rule (P := fun k (_ : Unit) => ∀ M3, zGo M2 M3 → zMo M3 (wBids v k) → zJ yX10_writeBids cX10_writeBids 3 (some .int) rX10_writeBids Q X 0 0 16 [some (.ref 118), some (.int (nI k)), none] [] M3) (n := (vord v 0).1) (f := fun _ s => s) (s0 := ()) ?_ ?_ M2 zGo.rf hO2
  · intro k _ hk hkk M3 hF3 hO3
    have hg := vord_g hk
    have h8 := hW.gN
    have hv1 := voffer_le v 0 ((vord v 0).2 k)
    have hv2 := (vneed_le hW (d := 0) hg).1
    have hs0 := (wBids_ok hW hN k (by omega)).1
    have hs1 := wName_le (v := v) (b := 268 + 23 * (vord v 0).2 k + 17) (s := wBids v k) 6
    have hs2 : (tps (wName v (268 + 23 * (vord v 0).2 k + 17) 6 (wBids v k)) 58).1 = (wName v (268 + 23 * (vord v 0).2 k + 17) 6 (wBids v k)).1 + 1 := rfl
    have hs3 := wNum_le (x := voffer v 0 ((vord v 0).2 k)) (s := tps (wName v (268 + 23 * (vord v 0).2 k + 17) 6 (wBids v k)) 58) (by omega) 10
    have hs4 : (tps (wNum (voffer v 0 ((vord v 0).2 k)) 10 (tps (wName v (268 + 23 * (vord v 0).2 k + 17) 6 (wBids v k)) 58)) 47).1 = (wNum (voffer v 0 ((vord v 0).2 k)) 10 (tps (wName v (268 + 23 * (vord v 0).2 k + 17) 6 (wBids v k)) 58)).1 + 1 := rfl
    have hs5 := wNum_le (x := vneed v 0 ((vord v 0).2 k)) (s := tps (wNum (voffer v 0 ((vord v 0).2 k)) 10 (tps (wName v (268 + 23 * (vord v 0).2 k + 17) 6 (wBids v k)) 58)) 47) (by omega) 10
    refine zj_iload1 (n := 17) rfl dX10_writeBids_16 ?_
    refine zj_aload0 (n := 18) rfl dX10_writeBids_17 ?_
    refine zj_getiN (e := (vord v 0).1) (n := 21) rfl dX10_writeBids_18 zf_X10_161 rfl (by decide) (by decide) (by rw [hF3.2.2 11 (by decide), e2b 11 (by decide)]; exact hB1.1) ?_
    refine zj_icmpN_ge (n := 24) (tgt := 117) rfl dX10_writeBids_21 (by decide) (by omega) (by omega) (fun c21 => by omega) (fun c21 => ?_)
    refine zj_iconstN_0 (n := 25) rfl dX10_writeBids_24 ?_
    refine zj_istore2 (n := 26) rfl dX10_writeBids_25 rfl (Nat.le_of_ble_eq_true rfl) ?_
    refine z_wbn (s := wBids v k) (hF3.ra hA2) (by omega) (by omega) (by rw [hF3.1 122 (by decide) (by decide), e2 122 (by decide)]; exact (hB1.2 k hk).1) (hN.2.2 _ hg) hO3 (by omega) ?_
    intro M4 hF4 hO4
    refine zj_aload0 (n := 74) rfl dX10_writeBids_73 ?_
    refine zj_bipushN (v := 58) (n := 76) rfl dX10_writeBids_74 (by decide) ?_
    refine zj_callV1 (n := 79) (a' := 0) (b' := 0) rfl dX10_writeBids_76 zm_X10_476 (by decide) (by decide) rfl (Nat.le_of_ble_eq_true rfl) (Nat.le_of_ble_eq_true rfl) (Nat.le_of_ble_eq_true rfl) (Nat.le_of_ble_eq_true rfl) (jX10_write hO4 (by decide) (by omega) ?_)
    intro M5 hF5 hO5
    have hF35 := hF4.tr hF5
    refine zj_aload0 (n := 80) rfl dX10_writeBids_79 ?_
    refine zj_aload0 (n := 81) rfl dX10_writeBids_80 ?_
    refine zj_getr (n := 84) (q := 123) rfl dX10_writeBids_81 zf_X10_34 rfl (by decide) (by decide) rfl ?_
    refine zj_iload1 (n := 85) rfl dX10_writeBids_84 ?_
    refine zj_ialoadN (e := voffer v 0 ((vord v 0).2 k)) (n := 86) rfl dX10_writeBids_85 (by decide) (by decide) (by rw [show zLen 123 = 10 from rfl]; omega) (by rw [hF35.1 123 (by decide) (by decide), hF3.1 123 (by decide) (by decide), e2 123 (by decide)]; exact (hB1.2 k hk).2) ?_
    refine zj_callV1 (n := 89) (a' := 0) (b' := 0) rfl dX10_writeBids_86 zm_X10_479 (by decide) (by decide) rfl (Nat.le_of_ble_eq_true rfl) (Nat.le_of_ble_eq_true rfl) (Nat.le_of_ble_eq_true rfl) (Nat.le_of_ble_eq_true rfl) (jX10_writeNumber (by omega) hO5 (by omega) ?_)
    intro M6 hF6 hO6
    refine zj_aload0 (n := 90) rfl dX10_writeBids_89 ?_
    refine zj_bipushN (v := 47) (n := 92) rfl dX10_writeBids_90 (by decide) ?_
    refine zj_callV1 (n := 95) (a' := 0) (b' := 0) rfl dX10_writeBids_92 zm_X10_476 (by decide) (by decide) rfl (Nat.le_of_ble_eq_true rfl) (Nat.le_of_ble_eq_true rfl) (Nat.le_of_ble_eq_true rfl) (Nat.le_of_ble_eq_true rfl) (jX10_write hO6 (by decide) (by omega) ?_)
    intro M7 hF7 hO7
    have hF37 := hF35.tr (hF6.tr hF7)
    refine zj_aload0 (n := 96) rfl dX10_writeBids_95 ?_
    refine zj_aload0 (n := 97) rfl dX10_writeBids_96 ?_
    refine zj_getr (n := 100) (q := 124) rfl dX10_writeBids_97 zf_X10_37 rfl (by decide) (by decide) rfl ?_
    refine zj_iload1 (n := 101) rfl dX10_writeBids_100 ?_
    refine zj_ialoadN (e := vneed v 0 ((vord v 0).2 k)) (n := 102) rfl dX10_writeBids_101 (by decide) (by decide) (by rw [show zLen 124 = 10 from rfl]; omega) (by rw [hF37.1 124 (by decide) (by decide), hF3.1 124 (by decide) (by decide), e2 124 (by decide)]; exact hN1 k hk) ?_
    refine zj_callV1 (n := 105) (a' := 0) (b' := 0) rfl dX10_writeBids_102 zm_X10_479 (by decide) (by decide) rfl (Nat.le_of_ble_eq_true rfl) (Nat.le_of_ble_eq_true rfl) (Nat.le_of_ble_eq_true rfl) (Nat.le_of_ble_eq_true rfl) (jX10_writeNumber (by omega) hO7 (by omega) ?_)
    intro M8 hF8 hO8
    refine zj_aload0 (n := 106) rfl dX10_writeBids_105 ?_
    refine zj_bipushN (v := 10) (n := 108) rfl dX10_writeBids_106 (by decide) ?_
    refine zj_callV1 (n := 111) (a' := 0) (b' := 0) rfl dX10_writeBids_108 zm_X10_476 (by decide) (by decide) rfl (Nat.le_of_ble_eq_true rfl) (Nat.le_of_ble_eq_true rfl) (Nat.le_of_ble_eq_true rfl) (Nat.le_of_ble_eq_true rfl) (jX10_write hO8 (by decide) (by omega) ?_)
    intro M9 hF9 hO9
    have hF39 := hF37.tr (hF8.tr hF9)
    refine zj_iincN1 (n := 114) rfl dX10_writeBids_111 rfl (Nat.le_of_ble_eq_true rfl) ?_
    refine zj_goto (tgt := 16) dX10_writeBids_114 (by decide) ?_
    exact hkk M9 (hF3.tr hF39) hO9
  · intro M3 hF3 hO3
    refine zj_iload1 (n := 17) rfl dX10_writeBids_16 ?_
    refine zj_aload0 (n := 18) rfl dX10_writeBids_17 ?_
    refine zj_getiN (e := (vord v 0).1) (n := 21) rfl dX10_writeBids_18 zf_X10_161 rfl (by decide) (by decide) (by rw [hF3.2.2 11 (by decide), e2b 11 (by decide)]; exact hB1.1) ?_
    refine zj_icmpN_ge (n := 24) (tgt := 117) rfl dX10_writeBids_21 (by decide) (by omega) (by omega) (fun c21 => ?_) (fun c21 => by omega)
    refine zj_aload0 (n := 118) rfl dX10_writeBids_117 ?_
    refine zj_getiN (e := (wAll v).1) (n := 121) rfl dX10_writeBids_118 zf_X10_473 rfl (by decide) (by decide) hO3.1 ?_
    refine zj_ireturn dX10_writeBids_121 rfl rfl ?_
    refine h M3 ⟨fun a j hj => ?_, fun a ha => by rw [hF3.2.1, e2s, hS1.2.1 a ha], by rw [hF3.2.1, e2s, hS1.2.2]⟩ (by rw [hF3.2.2 0 (by decide), e2b 0 (by decide), hS1.1 118 0 rfl]; dsimp only; rw [zU_eq]) hO3
    unfold zGwI at hj
    simp only [Bool.or_eq_false_iff, beq_eq_false_iff_ne] at hj
    have e1 : M1.1 a j = M.1 a j := by
      rw [hS1.1 a j hj.1.1]
      dsimp only
      by_cases q : a = 118
      · subst q
        have := hj.2
        simp only [beq_self_eq_true, Bool.true_and, Bool.or_eq_false_iff, beq_eq_false_iff_ne] at this
        rw [zU_nj this.1]
      · rw [zU_off q]
    by_cases q : a = 118
    · subst q
      have := hj.2
      simp only [beq_self_eq_true, Bool.true_and, Bool.or_eq_false_iff, beq_eq_false_iff_ne] at this
      rw [hF3.2.2 j this.2, e2b j this.2, e1]
    · rw [hF3.1 a q hj.1.2, e2 a q, e1]
theorem jX10_outputByte {s : Nat × (Nat → Nat)} {x : Int32} {Q : Option Value → zM → Prop} {X : String → zM → Prop} {M : zM} (hO : zMo M s) (hC : zCh s) (hn : s.1 ≤ 200) (h : ∀ M', zQm M M' → M'.1 118 0 = nI (a_outB s x).1 → Q (some (.int (a_outB s x).2)) M') : zJ yX10_outputByte cX10_outputByte 2 (some .int) rX10_outputByte Q X rX10_outputByte.cells rX10_outputByte.slots 0 (zEnt 2 [.ref 118, .int x]) [] M := by
  show zJ yX10_outputByte cX10_outputByte 2 (some .int) rX10_outputByte Q X 0 0 0 [some (.ref 118), some (.int x)] [] M
  refine zj_aload0 (n := 1) rfl dX10_outputByte_0 ?_
  refine zj_iload1 (n := 2) rfl dX10_outputByte_1 ?_
  refine zj_i2l (n := 3) rfl dX10_outputByte_2 ?_
  refine zj_lconstN_0 (n := 4) rfl dX10_outputByte_3 ?_
  refine zj_aload0 (n := 5) rfl dX10_outputByte_4 ?_
  refine zj_getiN (e := s.1) (n := 8) rfl dX10_outputByte_5 zf_X10_473 rfl (by decide) (by decide) hO.1 ?_
  refine zj_iconstN_1 (n := 9) rfl dX10_outputByte_8 ?_
  refine zj_isub (n := 10) rfl dX10_outputByte_9 ?_
  refine zj_i2l (n := 11) rfl dX10_outputByte_10 ?_
  refine zj_callS3 (n := 14) (a' := 0) (b' := 0) rfl dX10_outputByte_11 zm_X10_62 (by decide) (Nat.le_of_ble_eq_true rfl) (Nat.le_of_ble_eq_true rfl) (Nat.le_of_ble_eq_true rfl) (Nat.le_of_ble_eq_true rfl) (jX10_inA (n := s.1) (by omega) ?_)
  refine zj_callV1 (n := 17) (a' := 0) (b' := 0) rfl dX10_outputByte_14 zm_X10_216 (by decide) (by decide) rfl (Nat.le_of_ble_eq_true rfl) (Nat.le_of_ble_eq_true rfl) (Nat.le_of_ble_eq_true rfl) (Nat.le_of_ble_eq_true rfl) (jX10_passesQ ?_)
  intro M1 hQ1 hF1 hL1 h118 ht1
  refine zj_ifB_eq (n := 20) (tgt := 29) rfl dX10_outputByte_17 (by decide) (fun c17 => ?_) (fun c17 => ?_)
  · refine zj_iconstN_0 (n := 30) rfl dX10_outputByte_29 ?_
    refine zj_ireturn dX10_outputByte_30 rfl rfl ?_
    have e : a_outB s x = (1, nI 0) := by unfold a_outB; rw [c17, if_neg (by decide)]
    rw [e] at h
    exact h M1 hQ1 (by rw [ht1, c17]; rfl)
  · obtain ⟨k, hk, rfl⟩ := (zin_iff (by omega)).mp c17
    refine zj_aload0 (n := 21) rfl dX10_outputByte_20 ?_
    refine zj_getr (n := 24) (q := 130) rfl dX10_outputByte_21 zf_X10_59 rfl (by decide) (by decide) rfl ?_
    refine zj_iload1 (n := 25) rfl dX10_outputByte_24 ?_
    refine zj_baloadW (x := nI (s.2 k)) (n := 26) rfl dX10_outputByte_25 (by decide) (by decide) (by rw [show zLen 130 = 300 from rfl]; omega) (by rw [hF1 130 (by decide), (hO.2 k hk).2]; exact zsx_small _ (hC k hk)) ?_
    refine zj_goto (tgt := 30) dX10_outputByte_26 (by decide) ?_
    refine zj_ireturn dX10_outputByte_30 rfl rfl ?_
    have e : a_outB s (nI k) = (0, nI (s.2 k)) := by unfold a_outB; rw [c17, xn_at (by omega)]; rfl
    rw [e] at h
    exact h M1 hQ1 (by rw [ht1, c17]; rfl)
