/-! THE CLASS'S AUCTIONS: held -/
def zHd (M : zM) (u : Nat) (v : zV) : Prop := zMb M u (voffer v 0) (vord v 0) ∧ (∀ k, k < (vord v 0).1 → M.1 (u + 4) (k * 4 + 2) = nI (vunits v 0 k)) ∧ (∀ k, k < (vord v 0).1 → M.1 (u + 4) (k * 4 + 3) = nI (if 0 < vunits v 0 k then vprice v 0 k else 0)) ∧ M.1 u 2 = nI (vclr v) ∧ M.1 u 3 = nI (vsold v)
/-- an auction is formed -/
def zAo (M : zM) (u : Nat) : Prop := zAi u ∧ ∃ n, zTN M (u + 3) 4 10 n
theorem zAo.cg {M M' : zM} {u : Nat} (h : zAo M u) (e : M'.1 (u + 3) = M.1 (u + 3)) : zAo M' u := ⟨h.1, h.2.choose, h.2.choose_spec.cg e⟩
theorem zHd.o {M : zM} {u : Nat} {v : zV} (hu : zAi u) (h : zHd M u v) : zAo M u := ⟨hu, _, h.1.1⟩
theorem jX0_hold {u r : Nat} {v : zV} {Q : Option Value → zM → Prop} {X : String → zM → Prop} {M : zM} (hO : zAo M u) (hR : zRg M r v) (hW : zWF v) (h : ∀ M', zAf u M M' → zHd M' u v → Q none M') : zJ yX0_hold cX0_hold 4 none rX0_hold Q X rX0_hold.cells rX0_hold.slots 0 (zEnt 4 [.ref u, .ref r]) [] M := by
  obtain ⟨hu, n0, hT0⟩ := hO
  have hn10 := vord_le hW 0
  have h8 := hW.gN
  show zJ yX0_hold cX0_hold 4 none rX0_hold Q X 0 0 0 [some (.ref u), some (.ref r), none, none] [] M
  refine zj_aload0 (n := 1) rfl dX0_hold_0 ?_
  refine zj_getr (n := 4) (q := u + 3) rfl dX0_hold_1 zf_X0_23 rfl hu.lt hu.ty rfl ?_
  refine zj_callV0 (n := 7) (a' := 0) (b' := 0) rfl dX0_hold_4 zm_X0_27 (by decide) hu.lt3 (by rw [hu.ty3]; rfl) (Nat.le_of_ble_eq_true rfl) (Nat.le_of_ble_eq_true rfl) (Nat.le_of_ble_eq_true rfl) (Nat.le_of_ble_eq_true rfl) (jX7_clear hT0.1 ?_)
  refine zj_iconstN_0 (n := 8) rfl dX0_hold_7 ?_
  refine zj_istore2 (n := 9) rfl dX0_hold_8 rfl (Nat.le_of_ble_eq_true rfl) ?_
  refine zFor_rule (P := fun g (_ : Unit) => ∀ M1, zAf u M M1 → zMb M1 u (voffer v 0) (vordk v 0 g) → zJ yX0_hold cX0_hold 4 none rX0_hold Q X 0 0 9 [some (.ref u), some (.ref r), some (.int (nI g)), none] [] M1) (n := v 8) (f := fun _ s => s) (s0 := ()) ?_ ?_ _ (zAf.rf.put (k := u + 3) (by omega)) ⟨hT0.sz (by dsimp only; rw [zU_nj (by decide)]) (by dsimp only; exact zU_eq (v := nI 0)) (Nat.zero_le _), fun k hk => absurd hk (Nat.not_lt_zero k)⟩
  · intro g _ hg hk M1 hA1 hM1
    obtain ⟨b1, b2, b3, b4, b5, b6⟩ := vordk_ok v 0 g
    have hvo := voffer_le v 0 g
    have ek := vordk_succ v 0 g
    have hbl : ∀ g, vbid v 0 g = true → 1 ≤ voffer v 0 g := fun g hb => by unfold vbid at hb; simp only [Bool.and_eq_true, decide_eq_true_eq] at hb; have := hb.2; omega
    refine zj_iload2 (n := 10) rfl dX0_hold_9 ?_
    refine zj_aload1 (n := 11) rfl dX0_hold_10 ?_
    refine zj_getr (n := 14) (q := r + 5) rfl dX0_hold_11 zf_X0_30 rfl hR.i.lt hR.i.ty rfl ?_
    refine zj_getiN (e := v 8) (n := 17) rfl dX0_hold_14 zf_X0_35 rfl (hR.i.ltc (c := 5) (by decide)) (hR.i.ty1 (c := 5) (by decide)) (hA1.rg hu hR).g.1.2.2.2.1 ?_
    refine zj_icmpN_ge (n := 20) (tgt := 43) rfl dX0_hold_17 (by decide) (by omega) (by omega) (fun c17 => by omega) (fun c17 => ?_)
    refine zj_aload0 (n := 21) rfl dX0_hold_20 ?_
    refine zj_aload1 (n := 22) rfl dX0_hold_21 ?_
    refine zj_iload2 (n := 23) rfl dX0_hold_22 ?_
    refine zj_callV2 (n := 26) (a' := 0) (b' := 0) rfl dX0_hold_23 zm_X0_39 (by decide) hu.lt (by rw [hu.ty]; rfl) (Nat.le_of_ble_eq_true rfl) (Nat.le_of_ble_eq_true rfl) (Nat.le_of_ble_eq_true rfl) (Nat.le_of_ble_eq_true rfl) (jX0_bidOf hu (hA1.rg hu hR) hW hg ?_)
    intro L hL
    refine zj_istore3 (n := 27) rfl dX0_hold_26 rfl (Nat.le_of_ble_eq_true rfl) ?_
    refine zj_iload3 (n := 28) rfl dX0_hold_27 ?_
    refine zj_ifN_le (n := 31) (tgt := 37) rfl dX0_hold_28 (by decide) (by split <;> omega) (fun c28 => ?_) (fun c28 => ?_)
    · refine zj_iincN2 (n := 40) rfl dX0_hold_37 rfl (Nat.le_of_ble_eq_true rfl) ?_
      refine zj_goto (tgt := 9) dX0_hold_40 (by decide) ?_
      refine zj_keep [true, true, true, false] ?_
      have hb : vbid v 0 g = false := by cases e : vbid v 0 g with | false => rfl | true => (rw [e, if_pos rfl] at c28; have := hbl g e; omega)
      rw [ek, hb] at hk
      exact hk _ (hA1.tr (zAf.ofL hL)) hM1.lg
    · have hb : vbid v 0 g = true := by cases e : vbid v 0 g with | true => rfl | false => (rw [e, if_neg (by decide)] at c28; omega)
      rw [hb, if_pos rfl]
      refine zj_aload0 (n := 32) rfl dX0_hold_31 ?_
      refine zj_iload2 (n := 33) rfl dX0_hold_32 ?_
      refine zj_iload3 (n := 34) rfl dX0_hold_33 ?_
      refine zj_callV2 (n := 37) (a' := 0) (b' := 0) rfl dX0_hold_34 zm_X0_43 (by decide) hu.lt (by rw [hu.ty]; rfl) (Nat.le_of_ble_eq_true rfl) (Nat.le_of_ble_eq_true rfl) (Nat.le_of_ble_eq_true rfl) (Nat.le_of_ble_eq_true rfl) (jX0_enter (off := voffer v 0) hu (hM1.lg (L := L)) (by omega) (fun g => by have := voffer_le v 0 g; omega) b3 ?_)
      intro M2 hA2 hx2 hM2 hL2
      refine zj_iincN2 (n := 40) rfl dX0_hold_37 rfl (Nat.le_of_ble_eq_true rfl) ?_
      refine zj_goto (tgt := 9) dX0_hold_40 (by decide) ?_
      refine zj_keep [true, true, true, false] ?_
      rw [ek, hb] at hk
      exact hk M2 ((hA1.tr (zAf.ofL hL)).tr hA2) hM2
  · intro M1 hA1 hM1
    refine zj_iload2 (n := 10) rfl dX0_hold_9 ?_
    refine zj_aload1 (n := 11) rfl dX0_hold_10 ?_
    refine zj_getr (n := 14) (q := r + 5) rfl dX0_hold_11 zf_X0_30 rfl hR.i.lt hR.i.ty rfl ?_
    refine zj_getiN (e := v 8) (n := 17) rfl dX0_hold_14 zf_X0_35 rfl (hR.i.ltc (c := 5) (by decide)) (hR.i.ty1 (c := 5) (by decide)) (hA1.rg hu hR).g.1.2.2.2.1 ?_
    refine zj_icmpN_ge (n := 20) (tgt := 43) rfl dX0_hold_17 (by decide) (by omega) (by omega) (fun c17 => ?_) (fun c17 => by omega)
    refine zj_aload0 (n := 44) rfl dX0_hold_43 ?_
    refine zj_aload1 (n := 45) rfl dX0_hold_44 ?_
    refine zj_callV1 (n := 48) (a' := 0) (b' := 0) rfl dX0_hold_45 zm_X0_46 (by decide) hu.lt (by rw [hu.ty]; rfl) (Nat.le_of_ble_eq_true rfl) (Nat.le_of_ble_eq_true rfl) (Nat.le_of_ble_eq_true rfl) (Nat.le_of_ble_eq_true rfl) (jX0_sell hu (hA1.rg hu hR) hW hM1 ?_)
    intro M2 hA2 hM2 hu2 hc2 hs2
    refine zj_iconstN_0 (n := 49) rfl dX0_hold_48 ?_
    refine zj_istore2 (n := 50) rfl dX0_hold_49 rfl (Nat.le_of_ble_eq_true rfl) ?_
    refine zFor_rule (P := fun k (_ : Unit) => ∀ M3, zAf u M M3 → zMb M3 u (voffer v 0) (vord v 0) → (∀ i, i < (vord v 0).1 → M3.1 (u + 4) (i * 4 + 2) = nI (vunits v 0 i)) → (∀ i, i < k → M3.1 (u + 4) (i * 4 + 3) = nI (if 0 < vunits v 0 i then vprice v 0 i else 0)) → M3.1 u 2 = nI (vclr v) → M3.1 u 3 = nI (vsold v) → zJ yX0_hold cX0_hold 4 none rX0_hold Q X 0 0 50 [some (.ref u), some (.ref r), some (.int (nI k)), none] [] M3) (n := (vord v 0).1) (f := fun _ s => s) (s0 := ()) ?_ ?_ M2 (hA1.tr hA2) hM2 hu2 (fun i hi => absurd hi (Nat.not_lt_zero i)) hc2 hs2
    · intro k _ hk9 hk M3 hA3 hM3 hu3 hp3 hc3 hs3
      refine zj_iload2 (n := 51) rfl dX0_hold_50 ?_
      refine zj_aload0 (n := 52) rfl dX0_hold_51 ?_
      refine zj_getr (n := 55) (q := u + 3) rfl dX0_hold_52 zf_X0_23 rfl hu.lt hu.ty rfl ?_
      refine zj_getiN (e := (vord v 0).1) (n := 58) rfl dX0_hold_55 zf_X0_35 rfl hu.lt3 hu.ty3 hM3.1.2.2.2.1 ?_
      refine zj_icmpN_ge (n := 61) (tgt := 108) rfl dX0_hold_58 (by decide) (by omega) (by omega) (fun c58 => by omega) (fun c58 => ?_)
      refine zj_aload0 (n := 62) rfl dX0_hold_61 ?_
      refine zj_getr (n := 65) (q := u + 3) rfl dX0_hold_62 zf_X0_23 rfl hu.lt hu.ty rfl ?_
      refine zj_iload2 (n := 66) rfl dX0_hold_65 ?_
      refine zj_iconstN_2 (n := 67) rfl dX0_hold_66 ?_
      refine zj_callV2 (n := 70) (a' := 0) (b' := 0) rfl dX0_hold_67 zm_X0_50 (by decide) hu.lt3 (by rw [hu.ty3]; rfl) (Nat.le_of_ble_eq_true rfl) (Nat.le_of_ble_eq_true rfl) (Nat.le_of_ble_eq_true rfl) (Nat.le_of_ble_eq_true rfl) (jT_get (e := vunits v 0 k) hM3.1 hk9 (by decide) (hu3 k hk9) ?_)
      refine zj_ifN_le (n := 73) (tgt := 77) rfl dX0_hold_70 (by decide) (by have := (vsell_ok hW 0).2.1 k hk9; have : vunits v 0 k ≤ vnd v 0 k := this; have := (vbidder hW hk9).2.2.2.2.2.1; omega) (fun c70 => ?_) (fun c70 => ?_)
      · refine zj_iconstN_0 (n := 78) rfl dX0_hold_77 ?_
        refine zj_istore3 (n := 79) rfl dX0_hold_78 rfl (Nat.le_of_ble_eq_true rfl) ?_
        refine zj_aload0 (n := 80) rfl dX0_hold_79 ?_
        refine zj_getr (n := 83) (q := u + 3) rfl dX0_hold_80 zf_X0_23 rfl hu.lt hu.ty rfl ?_
        refine zj_iload2 (n := 84) rfl dX0_hold_83 ?_
        refine zj_iconstN_3 (n := 85) rfl dX0_hold_84 ?_
        refine zj_iload3 (n := 86) rfl dX0_hold_85 ?_
        refine zj_ifN_eq (n := 89) (tgt := 98) rfl dX0_hold_86 (by decide) (by omega) (fun _ => ?_) (fun h => absurd h (by decide))
        refine zj_iconstN_0 (n := 99) rfl dX0_hold_98 ?_
        refine zj_callV3 (n := 102) (a' := 0) (b' := 0) rfl dX0_hold_99 zm_X0_57 (by decide) hu.lt3 (by rw [hu.ty3]; rfl) (Nat.le_of_ble_eq_true rfl) (Nat.le_of_ble_eq_true rfl) (Nat.le_of_ble_eq_true rfl) (Nat.le_of_ble_eq_true rfl) (jT_set hM3.1 hk9 (by decide) ?_)
        refine zj_iincN2 (n := 105) rfl dX0_hold_102 rfl (Nat.le_of_ble_eq_true rfl) ?_
        refine zj_goto (tgt := 50) dX0_hold_105 (by decide) ?_
        refine zj_keep [true, true, true, false] ?_
        refine hk _ (hA3.put (by omega)) (hM3.cg (by dsimp only; rw [zU_off (by omega)]) (fun i c hi hc => by dsimp only; rw [zU_nj (by omega)])) (fun i hi => by dsimp only; rw [zU_nj (by omega)]; exact hu3 i hi) (fun i hi => ?_) (by dsimp only; rw [zU_ne (by omega)]; exact hc3) (by dsimp only; rw [zU_ne (by omega)]; exact hs3)
        dsimp only
        by_cases q : i = k
        · subst q
          rw [if_neg (by omega)]
          exact zU_eq
        · rw [zU_nj (by omega)]; exact hp3 i (by omega)
      · refine zj_iconstN_1 (n := 74) rfl dX0_hold_73 ?_
        refine zj_goto (tgt := 78) dX0_hold_74 (by decide) ?_
        refine zj_istore3 (n := 79) rfl dX0_hold_78 rfl (Nat.le_of_ble_eq_true rfl) ?_
        refine zj_aload0 (n := 80) rfl dX0_hold_79 ?_
        refine zj_getr (n := 83) (q := u + 3) rfl dX0_hold_80 zf_X0_23 rfl hu.lt hu.ty rfl ?_
        refine zj_iload2 (n := 84) rfl dX0_hold_83 ?_
        refine zj_iconstN_3 (n := 85) rfl dX0_hold_84 ?_
        refine zj_iload3 (n := 86) rfl dX0_hold_85 ?_
        refine zj_ifN_eq (n := 89) (tgt := 98) rfl dX0_hold_86 (by decide) (by omega) (fun h => absurd h (by decide)) (fun _ => ?_)
        refine zj_aload0 (n := 90) rfl dX0_hold_89 ?_
        refine zj_aload1 (n := 91) rfl dX0_hold_90 ?_
        refine zj_iload2 (n := 92) rfl dX0_hold_91 ?_
        refine zj_callV2 (n := 95) (a' := 0) (b' := 0) rfl dX0_hold_92 zm_X0_54 (by decide) hu.lt (by rw [hu.ty]; rfl) (Nat.le_of_ble_eq_true rfl) (Nat.le_of_ble_eq_true rfl) (Nat.le_of_ble_eq_true rfl) (Nat.le_of_ble_eq_true rfl) (jX0_priceAt hu (hA3.rg hu hR) hW hM3 hk9 hc3 ?_)
        refine zj_goto (tgt := 99) dX0_hold_95 (by decide) ?_
        refine zj_callV3 (n := 102) (a' := 0) (b' := 0) rfl dX0_hold_99 zm_X0_57 (by decide) hu.lt3 (by rw [hu.ty3]; rfl) (Nat.le_of_ble_eq_true rfl) (Nat.le_of_ble_eq_true rfl) (Nat.le_of_ble_eq_true rfl) (Nat.le_of_ble_eq_true rfl) (jT_set hM3.1 hk9 (by decide) ?_)
        refine zj_iincN2 (n := 105) rfl dX0_hold_102 rfl (Nat.le_of_ble_eq_true rfl) ?_
        refine zj_goto (tgt := 50) dX0_hold_105 (by decide) ?_
        refine zj_keep [true, true, true, false] ?_
        refine hk _ (hA3.put (by omega)) (hM3.cg (by dsimp only; rw [zU_off (by omega)]) (fun i c hi hc => by dsimp only; rw [zU_nj (by omega)])) (fun i hi => by dsimp only; rw [zU_nj (by omega)]; exact hu3 i hi) (fun i hi => ?_) (by dsimp only; rw [zU_ne (by omega)]; exact hc3) (by dsimp only; rw [zU_ne (by omega)]; exact hs3)
        dsimp only
        by_cases q : i = k
        · subst q
          rw [if_pos c70]
          exact zU_eq
        · rw [zU_nj (by omega)]; exact hp3 i (by omega)
    · intro M3 hA3 hM3 hu3 hp3 hc3 hs3
      refine zj_iload2 (n := 51) rfl dX0_hold_50 ?_
      refine zj_aload0 (n := 52) rfl dX0_hold_51 ?_
      refine zj_getr (n := 55) (q := u + 3) rfl dX0_hold_52 zf_X0_23 rfl hu.lt hu.ty rfl ?_
      refine zj_getiN (e := (vord v 0).1) (n := 58) rfl dX0_hold_55 zf_X0_35 rfl hu.lt3 hu.ty3 hM3.1.2.2.2.1 ?_
      refine zj_icmpN_ge (n := 61) (tgt := 108) rfl dX0_hold_58 (by decide) (by omega) (by omega) (fun c58 => ?_) (fun c58 => by omega)
      exact zj_return dX0_hold_108 rfl (h M3 hA3 ⟨hM3, hu3, hp3, hc3, hs3⟩)
