/-! THE CLASS'S AUCTIONS: settled -/
def zRu (r u : Nat) (M M' : zM) : Prop := (∀ a, (a < r ∨ r + 8 < a) → a ≠ u → M'.1 a = M.1 a) ∧ (∀ j, j ≠ 4 → j ≠ 5 → M'.1 u j = M.1 u j) ∧ M'.2 = M.2
theorem zRu.rf {r u : Nat} {M : zM} : zRu r u M M := ⟨fun _ _ _ => rfl, fun _ _ _ => rfl, rfl⟩
theorem zRu.tr {r u : Nat} {M M1 M2 : zM} (h : zRu r u M M1) (h2 : zRu r u M1 M2) : zRu r u M M2 := ⟨fun a h1 h3 => (h2.1 a h1 h3).trans (h.1 a h1 h3), fun j h1 h3 => (h2.2.1 j h1 h3).trans (h.2.1 j h1 h3), h2.2.2.trans h.2.2⟩
theorem zRu.ring {r u : Nat} {M M1 M2 : zM} (hur : r + 8 < u) (h : zRu r u M M1) (h2 : ∀ a, (a < r ∨ r + 8 < a) → M2.1 a = M1.1 a) (h3 : M2.2 = M1.2) : zRu r u M M2 := ⟨fun a h1 h4 => (h2 a h1).trans (h.1 a h1 h4), fun j h1 h4 => by rw [h2 u (by omega)]; exact h.2.1 j h1 h4, h3.trans h.2.2⟩
theorem zRu.put {r u j : Nat} {M M1 : zM} {x : Int32} (h : zRu r u M M1) (hj : j = 4 ∨ j = 5) : zRu r u M (zU M1.1 u j x, M1.2) := ⟨fun a h1 h2 => by show zU M1.1 u j x a = _; rw [zU_off h2]; exact h.1 a h1 h2, fun i h1 h2 => by show zU M1.1 u j x u i = _; rw [zU_nj (by omega)]; exact h.2.1 i h1 h2, h.2.2⟩
theorem zRu.mb {r u : Nat} {M M' : zM} {off : Nat → Nat} {s : zB} (h : zRu r u M M') (hur : r + 8 < u) (hM : zMb M u off s) : zMb M' u off s := hM.cg (h.1 _ (by omega) (by omega)) (fun k c _ _ => by rw [h.1 (u + 4) (by omega) (by omega)])
theorem zRu.hd {r u : Nat} {M M' : zM} {v : zV} (h : zRu r u M M') (hur : r + 8 < u) (hH : zHd M u v) : zHd M' u v := ⟨h.mb hur hH.1, fun k hk => by rw [h.1 (u + 4) (by omega) (by omega)]; exact hH.2.1 k hk, fun k hk => by rw [h.1 (u + 4) (by omega) (by omega)]; exact hH.2.2.1 k hk, by rw [h.2.1 2 (by decide) (by decide)]; exact hH.2.2.2.1, by rw [h.2.1 3 (by decide) (by decide)]; exact hH.2.2.2.2⟩
theorem zaddneg {a b : Nat} (h : b ≤ a) : nI a + -(nI b) = nI (a - b) := by rw [← Int32.sub_eq_add_neg, pk_sub h]
theorem zRg.uput {M : zM} {r u j : Nat} {x : Int32} {v : zV} (h : zRg M r v) (hur : r + 8 < u) : zRg (zU M.1 u j x, M.2) r v := h.cg (fun a h1 h2 => zU_off (by omega))
theorem zWF.setT {v : zV} (hW : zWF v) {t c x : Nat} (ht : t < v 7) (hc : c = 2 ∧ x ≤ 9999999 ∨ c = 3 ∨ c = 4 ∧ x ≤ 2000000000) : zWF (vset v (202 + 11 * t + c) x) := by
  have h7 := hW.tN
  refine hW.ofTen (fun i hi => vset_off (by omega)) (fun t' ht' => ?_)
  obtain ⟨a0, a1, a2, a4⟩ := hW.ten ht'
  simp only [tn] at *
  rw [vset_off (show 202 + 11 * t' + 0 ≠ 202 + 11 * t + c by omega), vset_off (show 202 + 11 * t' + 1 ≠ 202 + 11 * t + c by omega)]
  refine ⟨a0, a1, ?_, ?_⟩
  · by_cases q : t' = t ∧ c = 2
    · obtain ⟨rfl, rfl⟩ := q
      rw [vset_at]; omega
    · rw [vset_off (by omega)]; exact a2
  · by_cases q : t' = t ∧ c = 4
    · obtain ⟨rfl, rfl⟩ := q
      rw [vset_at]; omega
    · rw [vset_off (by omega)]; exact a4
theorem jX0_tenantAtS {u r k : Nat} {v s : zV} {Q : Option Value → zM → Prop} {X : String → zM → Prop} {M : zM} (hu : zAi u) (hR : zRg M r s) (hW : zWF v) (hS : zWF s) (hH : zHd M u v) (hk : k < (vord v 0).1) (hb : (vord v 0).2 k < s 8) (h : Q (some (.int (nI (s (268 + 23 * ((vord v 0).2 k) + 0))))) M) : zJ yX0_tenantAt cX0_tenantAt 3 (some .int) rX0_tenantAt Q X rX0_tenantAt.cells rX0_tenantAt.slots 0 (zEnt 3 [.ref u, .ref r, .int (nI k)]) [] M := by
  obtain ⟨b1, b2, b3, b4, b5, b6, b7⟩ := vbidder hW hk
  have hn10 := vord_le hW 0
  have hur := hu.far hR.i
  show zJ yX0_tenantAt cX0_tenantAt 3 (some .int) rX0_tenantAt Q X 0 0 0 [some (.ref u), some (.ref r), some (.int (nI k))] [] M
  refine zj_aload1 (n := 1) rfl dX0_tenantAt_0 ?_
  refine zj_getr (n := 4) (q := r + 5) rfl dX0_tenantAt_1 zf_X0_30 rfl hR.i.lt hR.i.ty rfl ?_
  refine zj_aload0 (n := 5) rfl dX0_tenantAt_4 ?_
  refine zj_getr (n := 8) (q := u + 3) rfl dX0_tenantAt_5 zf_X0_23 rfl hu.lt hu.ty rfl ?_
  refine zj_iload2 (n := 9) rfl dX0_tenantAt_8 ?_
  refine zj_iconstN_0 (n := 10) rfl dX0_tenantAt_9 ?_
  refine zj_callV2 (n := 13) (a' := 0) (b' := 0) rfl dX0_tenantAt_10 zm_X0_50 (by decide) hu.lt3 (by rw [hu.ty3]; rfl) (Nat.le_of_ble_eq_true rfl) (Nat.le_of_ble_eq_true rfl) (Nat.le_of_ble_eq_true rfl) (Nat.le_of_ble_eq_true rfl) (jT_get (e := (vord v 0).2 k) hH.1.1 (by omega) (by decide) (hH.1.2 _ (by omega)).1 ?_)
  refine zj_iconstN_0 (n := 14) rfl dX0_tenantAt_13 ?_
  refine zj_callV2 (n := 17) (a' := 0) (b' := 0) rfl dX0_tenantAt_14 zm_X0_50 (by decide) (hR.i.ltc (c := 5) (by decide)) (by rw [(hR.i.ty1 (c := 5) (by decide))]; rfl) (Nat.le_of_ble_eq_true rfl) (Nat.le_of_ble_eq_true rfl) (Nat.le_of_ble_eq_true rfl) (Nat.le_of_ble_eq_true rfl) (jT_get hR.g.1 (by omega) (by decide) (hR.g.c (by omega) (by decide)) ?_)
  exact zj_ireturn dX0_tenantAt_17 rfl rfl h
theorem zRg.eqv {M : zM} {r : Nat} {v v' : zV} (h : zRg M r v) (e : v = v') : zRg M r v' := e ▸ h
theorem jX0_charge {u r k : Nat} {v s : zV} {Q : Option Value → zM → Prop} {X : String → zM → Prop} {M : zM} (hu : zAi u) (hR : zRg M r s) (hW : zWF v) (hS : zWF s) (hH : zHd M u v) (hk : k < (vord v 0).1) (hb : (vord v 0).2 k < s 8) (ht : s (268 + 23 * (vord v 0).2 k + 0) = vten v 0 k) (ht7 : vten v 0 k < s 7) (hc : vpayd v 0 k ≤ s (202 + 11 * vten v 0 k + 2)) (h : ∀ M', zRu r u M M' → M'.1 u 4 = M.1 u 4 → M'.1 u 5 = M.1 u 5 + nI (vpayd v 0 k) → zRg M' r (vpay1 v s k) → Q none M') : zJ yX0_charge cX0_charge 7 none rX0_charge Q X rX0_charge.cells rX0_charge.slots 0 (zEnt 7 [.ref u, .ref r, .int (nI k)]) [] M := by
  obtain ⟨b1, b2, b3, b4, b5, b6, b7⟩ := vbidder hW hk
  have hn10 := vord_le hW 0
  have hur := hu.far hR.i
  have h6 := hS.tN
  obtain ⟨t0, t1, t2, t4⟩ := hS.ten ht7
  have t2 : s (202 + 11 * vten v 0 k + 2) ≤ 9999999 := t2
  have t4 : s (202 + 11 * vten v 0 k + 4) ≤ 2000000000 := t4
  have hpm : vunits v 0 k * (if 0 < vunits v 0 k then vprice v 0 k else 0) = vpayd v 0 k := by
    unfold vpayd
    rcases Nat.eq_zero_or_pos (vunits v 0 k) with q | q
    · rw [q, Nat.zero_mul, Nat.zero_mul]
    · rw [if_pos q]
  have hR1 := hR.setT (j := 2) (x := s (202 + 11 * vten v 0 k + 2) - vpayd v 0 k) hS ht7 (by decide)
  have hS1 := hS.setT (c := 2) (x := s (202 + 11 * vten v 0 k + 2) - vpayd v 0 k) ht7 (by omega)
  have e71 : ∀ i x, vset s (202 + 11 * vten v 0 k + i) x 7 = s 7 := fun i x => vset_off (by omega)
  have hR2 := hR1.setT (j := 3) (x := s (202 + 11 * vten v 0 k + 3) + vunits v 0 k) hS1 (show vten v 0 k < _ by rw [e71]; exact ht7) (by decide)
  have hS2 := hS1.setT (c := 3) (x := s (202 + 11 * vten v 0 k + 3) + vunits v 0 k) (show vten v 0 k < _ by rw [e71]; exact ht7) (by omega)
  have e72 : ∀ x y, vset (vset s (202 + 11 * vten v 0 k + 2) x) (202 + 11 * vten v 0 k + 3) y 7 = s 7 := fun x y => by rw [vset_off (by omega), vset_off (by omega)]
  show zJ yX0_charge cX0_charge 7 none rX0_charge Q X 0 0 0 [some (.ref u), some (.ref r), some (.int (nI k)), none, none, none, none] [] M
  refine zj_aload0 (n := 1) rfl dX0_charge_0 ?_
  refine zj_aload1 (n := 2) rfl dX0_charge_1 ?_
  refine zj_iload2 (n := 3) rfl dX0_charge_2 ?_
  refine zj_callV2 (n := 6) (a' := 0) (b' := 0) rfl dX0_charge_3 zm_X0_110 (by decide) hu.lt (by rw [hu.ty]; rfl) (Nat.le_of_ble_eq_true rfl) (Nat.le_of_ble_eq_true rfl) (Nat.le_of_ble_eq_true rfl) (Nat.le_of_ble_eq_true rfl) (jX0_tenantAtS hu hR hW hS hH hk hb ?_)
  rw [ht]
  refine zj_istore3 (n := 7) rfl dX0_charge_6 rfl (Nat.le_of_ble_eq_true rfl) ?_
  refine zj_aload0 (n := 8) rfl dX0_charge_7 ?_
  refine zj_getr (n := 11) (q := u + 3) rfl dX0_charge_8 zf_X0_23 rfl hu.lt hu.ty rfl ?_
  refine zj_iload2 (n := 12) rfl dX0_charge_11 ?_
  refine zj_iconstN_2 (n := 13) rfl dX0_charge_12 ?_
  refine zj_callV2 (n := 16) (a' := 0) (b' := 0) rfl dX0_charge_13 zm_X0_50 (by decide) hu.lt3 (by rw [hu.ty3]; rfl) (Nat.le_of_ble_eq_true rfl) (Nat.le_of_ble_eq_true rfl) (Nat.le_of_ble_eq_true rfl) (Nat.le_of_ble_eq_true rfl) (jT_get (e := vunits v 0 k) hH.1.1 hk (by decide) (hH.2.1 k hk) ?_)
  refine zj_istore4 (n := 18) rfl dX0_charge_16 rfl (Nat.le_of_ble_eq_true rfl) ?_
  refine zj_iload4 (n := 20) rfl dX0_charge_18 ?_
  refine zj_aload0 (n := 21) rfl dX0_charge_20 ?_
  refine zj_getr (n := 24) (q := u + 3) rfl dX0_charge_21 zf_X0_23 rfl hu.lt hu.ty rfl ?_
  refine zj_iload2 (n := 25) rfl dX0_charge_24 ?_
  refine zj_iconstN_3 (n := 26) rfl dX0_charge_25 ?_
  refine zj_callV2 (n := 29) (a' := 0) (b' := 0) rfl dX0_charge_26 zm_X0_50 (by decide) hu.lt3 (by rw [hu.ty3]; rfl) (Nat.le_of_ble_eq_true rfl) (Nat.le_of_ble_eq_true rfl) (Nat.le_of_ble_eq_true rfl) (Nat.le_of_ble_eq_true rfl) (jT_get (e := if 0 < vunits v 0 k then vprice v 0 k else 0) hH.1.1 hk (by decide) (hH.2.2.1 k hk) ?_)
  refine zj_imulN (n := 30) rfl dX0_charge_29 ?_
  refine zj_istore5 (n := 32) rfl dX0_charge_30 rfl (Nat.le_of_ble_eq_true rfl) ?_
  rw [hpm]
  refine zj_aload1 (n := 33) rfl dX0_charge_32 ?_
  refine zj_getr (n := 36) (q := r + 3) rfl dX0_charge_33 zf_X0_119 rfl hR.i.lt hR.i.ty rfl ?_
  refine zj_iload3 (n := 37) rfl dX0_charge_36 ?_
  refine zj_iconstN_4 (n := 38) rfl dX0_charge_37 ?_
  refine zj_callV2 (n := 41) (a' := 0) (b' := 0) rfl dX0_charge_38 zm_X0_50 (by decide) (hR.i.ltc (c := 3) (by decide)) (by rw [(hR.i.ty1 (c := 3) (by decide))]; rfl) (Nat.le_of_ble_eq_true rfl) (Nat.le_of_ble_eq_true rfl) (Nat.le_of_ble_eq_true rfl) (Nat.le_of_ble_eq_true rfl) (jT_get (e := s (202 + 11 * vten v 0 k + 4)) hR.t.1 ht7 (by decide) (hR.t.c ht7 (by decide)) ?_)
  refine zj_istore6 (n := 43) rfl dX0_charge_41 rfl (Nat.le_of_ble_eq_true rfl) ?_
  refine zj_aload1 (n := 44) rfl dX0_charge_43 ?_
  refine zj_getr (n := 47) (q := r + 3) rfl dX0_charge_44 zf_X0_119 rfl hR.i.lt hR.i.ty rfl ?_
  refine zj_iload3 (n := 48) rfl dX0_charge_47 ?_
  refine zj_iconstN_2 (n := 49) rfl dX0_charge_48 ?_
  refine zj_iload5 (n := 51) rfl dX0_charge_49 ?_
  refine zj_ineg (n := 52) rfl dX0_charge_51 ?_
  refine zj_callV3 (n := 55) (a' := 0) (b' := 0) rfl dX0_charge_52 zm_X0_145 (by decide) (hR.i.ltc (c := 3) (by decide)) (by rw [(hR.i.ty1 (c := 3) (by decide))]; rfl) (Nat.le_of_ble_eq_true rfl) (Nat.le_of_ble_eq_true rfl) (Nat.le_of_ble_eq_true rfl) (Nat.le_of_ble_eq_true rfl) (jT_inc (e := s (202 + 11 * vten v 0 k + 2)) hR.t.1 ht7 (by decide) (hR.t.c ht7 (by decide)) ?_)
  rw [zaddneg hc]
  refine zj_aload1 (n := 56) rfl dX0_charge_55 ?_
  refine zj_getr (n := 59) (q := r + 3) rfl dX0_charge_56 zf_X0_119 rfl hR.i.lt hR.i.ty rfl ?_
  refine zj_iload3 (n := 60) rfl dX0_charge_59 ?_
  refine zj_iconstN_3 (n := 61) rfl dX0_charge_60 ?_
  refine zj_iload4 (n := 63) rfl dX0_charge_61 ?_
  refine zj_callV3 (n := 66) (a' := 0) (b' := 0) rfl dX0_charge_63 zm_X0_145 (by decide) (hR.i.ltc (c := 3) (by decide)) (by rw [(hR.i.ty1 (c := 3) (by decide))]; rfl) (Nat.le_of_ble_eq_true rfl) (Nat.le_of_ble_eq_true rfl) (Nat.le_of_ble_eq_true rfl) (Nat.le_of_ble_eq_true rfl) (jT_inc (e := s (202 + 11 * vten v 0 k + 3)) hR1.t.1 (by rw [e71]; exact ht7) (by decide) ((hR1.t.c (show vten v 0 k < _ by rw [e71]; exact ht7) (j := 3) (by decide)).trans (by rw [vset_off (by omega)])) ?_)
  rw [nI_add]
  refine zj_aload1 (n := 67) rfl dX0_charge_66 ?_
  refine zj_getr (n := 70) (q := r + 3) rfl dX0_charge_67 zf_X0_119 rfl hR.i.lt hR.i.ty rfl ?_
  refine zj_iload3 (n := 71) rfl dX0_charge_70 ?_
  refine zj_iconstN_4 (n := 72) rfl dX0_charge_71 ?_
  refine zj_iload6 (n := 74) rfl dX0_charge_72 ?_
  refine zj_iload5 (n := 76) rfl dX0_charge_74 ?_
  refine zj_iaddN (n := 77) rfl dX0_charge_76 ?_
  refine zj_ldcN (v := 2000000000) (n := 79) rfl dX0_charge_77 zc_X0_148 ?_
  refine zj_iminN (n := 82) rfl dX0_charge_79 zm_X0_104 (by decide) (Nat.le_of_ble_eq_true rfl) (by omega) (by omega) ?_
  refine zj_callV3 (n := 85) (a' := 0) (b' := 0) rfl dX0_charge_82 zm_X0_57 (by decide) (hR.i.ltc (c := 3) (by decide)) (by rw [(hR.i.ty1 (c := 3) (by decide))]; rfl) (Nat.le_of_ble_eq_true rfl) (Nat.le_of_ble_eq_true rfl) (Nat.le_of_ble_eq_true rfl) (Nat.le_of_ble_eq_true rfl) (jT_set hR2.t.1 (by rw [e72]; exact ht7) (by decide) ?_)
  refine zj_gen (fun M3 => zRu r u M M3 ∧ M3.1 u = M.1 u ∧ zRg M3 r (vpay1 v s k)) ⟨zRu.rf.ring hur (fun a ha => by dsimp only; rw [zU_off (by omega), zU_off (by omega), zU_off (by omega)]) rfl, by dsimp only; rw [zU_off (by omega), zU_off (by omega), zU_off (by omega)], (hR2.setT (j := 4) (x := min (s (202 + 11 * vten v 0 k + 4) + vpayd v 0 k) 2000000000) hS2 (show vten v 0 k < _ by rw [e72]; exact ht7) (by decide)).eqv (by unfold vpay1; rw [Nat.min_comm])⟩ (fun M3 h3 => ?_)
  obtain ⟨hF3, hu3, hR3⟩ := h3
  refine zj_aload0 (n := 86) rfl dX0_charge_85 ?_
  refine zj_dupr (n := 87) rfl dX0_charge_86 ?_
  refine zj_geti (n := 90) rfl dX0_charge_87 zf_X0_122 rfl hu.lt hu.ty ?_
  refine zj_iload5 (n := 92) rfl dX0_charge_90 ?_
  refine zj_iadd (n := 93) rfl dX0_charge_92 ?_
  refine zj_puti (n := 96) rfl dX0_charge_93 zp_X0_122 rfl hu.lt hu.ty ?_
  exact zj_return dX0_charge_96 rfl (h _ (hF3.put (by omega)) (by dsimp only; rw [zU_nj (by decide), hu3]) (by dsimp only; rw [zU_eq, hu3]) (hR3.uput hur))
theorem jX0_repair {u r k : Nat} {v s : zV} {rep : Nat} {Q : Option Value → zM → Prop} {X : String → zM → Prop} {M : zM} (hu : zAi u) (hR : zRg M r s) (hW : zWF v) (hS : zWF s) (hH : zHd M u v) (hk : k < (vord v 0).1) (hb : (vord v 0).2 k < s 8) (hS1 : zWF (vadd v s k)) (hrep : M.1 u 4 = nI rep) (h : ∀ M', zRu r u M M' → M'.1 u 5 = M.1 u 5 → M'.1 u 4 = nI (rep + vrn (vadd v s k) ((vord v 0).2 k)) → zRg M' r (vrk (vadd v s k) ((vord v 0).2 k) (vrn (vadd v s k) ((vord v 0).2 k))) → Q none M') : zJ yX0_repair cX0_repair 8 none rX0_repair Q X rX0_repair.cells rX0_repair.slots 0 (zEnt 8 [.ref u, .ref r, .int (nI k)]) [] M := by
  obtain ⟨b1, b2, b3, b4, b5, b6, b7⟩ := vbidder hW hk
  have hn10 := vord_le hW 0
  have hur := hu.far hR.i
  have h8 := hS.gN
  have hg1 : (vord v 0).2 k < vadd v s k 8 := by unfold vadd; rw [vset_off (by omega)]; exact hb
  have hco := (hS1.cost hg1).2
  have ec0 : vcost s ((vord v 0).2 k) = vcost (vadd v s k) ((vord v 0).2 k) := (vcost_vg (v := vadd v s k) (v' := s) (g := ((vord v 0).2 k)) (fun c hc => by unfold vadd; rw [vset_off (by omega)])).1
  show zJ yX0_repair cX0_repair 8 none rX0_repair Q X 0 0 0 [some (.ref u), some (.ref r), some (.int (nI k)), none, none, none, none, none] [] M
  refine zj_aload0 (n := 1) rfl dX0_repair_0 ?_
  refine zj_getr (n := 4) (q := u + 3) rfl dX0_repair_1 zf_X0_23 rfl hu.lt hu.ty rfl ?_
  refine zj_iload2 (n := 5) rfl dX0_repair_4 ?_
  refine zj_iconstN_0 (n := 6) rfl dX0_repair_5 ?_
  refine zj_callV2 (n := 9) (a' := 0) (b' := 0) rfl dX0_repair_6 zm_X0_50 (by decide) hu.lt3 (by rw [hu.ty3]; rfl) (Nat.le_of_ble_eq_true rfl) (Nat.le_of_ble_eq_true rfl) (Nat.le_of_ble_eq_true rfl) (Nat.le_of_ble_eq_true rfl) (jT_get (e := (vord v 0).2 k) hH.1.1 (by omega) (by decide) (hH.1.2 _ (by omega)).1 ?_)
  refine zj_istore3 (n := 10) rfl dX0_repair_9 rfl (Nat.le_of_ble_eq_true rfl) ?_
  refine zj_aload1 (n := 11) rfl dX0_repair_10 ?_
  refine zj_getr (n := 14) (q := r + 5) rfl dX0_repair_11 zf_X0_30 rfl hR.i.lt hR.i.ty rfl ?_
  refine zj_iload3 (n := 15) rfl dX0_repair_14 ?_
  refine zj_bipushN (v := 7) (n := 17) rfl dX0_repair_15 (by decide) ?_
  refine zj_callV2 (n := 20) (a' := 0) (b' := 0) rfl dX0_repair_17 zm_X0_50 (by decide) (hR.i.ltc (c := 5) (by decide)) (by rw [(hR.i.ty1 (c := 5) (by decide))]; rfl) (Nat.le_of_ble_eq_true rfl) (Nat.le_of_ble_eq_true rfl) (Nat.le_of_ble_eq_true rfl) (Nat.le_of_ble_eq_true rfl) (jT_get hR.g.1 (by omega) (by decide) (hR.g.co (by omega)) ?_)
  rw [ec0]
  refine zj_istore4 (n := 22) rfl dX0_repair_20 rfl (Nat.le_of_ble_eq_true rfl) ?_
  refine zj_aload1 (n := 23) rfl dX0_repair_22 ?_
  refine zj_getr (n := 26) (q := r + 5) rfl dX0_repair_23 zf_X0_30 rfl hR.i.lt hR.i.ty rfl ?_
  refine zj_iload3 (n := 27) rfl dX0_repair_26 ?_
  refine zj_bipushN (v := 6) (n := 29) rfl dX0_repair_27 (by decide) ?_
  refine zj_aload0 (n := 30) rfl dX0_repair_29 ?_
  refine zj_getr (n := 33) (q := u + 3) rfl dX0_repair_30 zf_X0_23 rfl hu.lt hu.ty rfl ?_
  refine zj_iload2 (n := 34) rfl dX0_repair_33 ?_
  refine zj_iconstN_2 (n := 35) rfl dX0_repair_34 ?_
  refine zj_callV2 (n := 38) (a' := 0) (b' := 0) rfl dX0_repair_35 zm_X0_50 (by decide) hu.lt3 (by rw [hu.ty3]; rfl) (Nat.le_of_ble_eq_true rfl) (Nat.le_of_ble_eq_true rfl) (Nat.le_of_ble_eq_true rfl) (Nat.le_of_ble_eq_true rfl) (jT_get (e := vunits v 0 k) hH.1.1 hk (by decide) (hH.2.1 k hk) ?_)
  refine zj_callV3 (n := 41) (a' := 0) (b' := 0) rfl dX0_repair_38 zm_X0_145 (by decide) (hR.i.ltc (c := 5) (by decide)) (by rw [(hR.i.ty1 (c := 5) (by decide))]; rfl) (Nat.le_of_ble_eq_true rfl) (Nat.le_of_ble_eq_true rfl) (Nat.le_of_ble_eq_true rfl) (Nat.le_of_ble_eq_true rfl) (jT_inc (e := s (268 + 23 * ((vord v 0).2 k) + 6)) hR.g.1 hb (by decide) (hR.g.c hb (by decide)) ?_)
  rw [nI_add]
  refine zj_iconstN_0 (n := 42) rfl dX0_repair_41 ?_
  refine zj_istore5 (n := 44) rfl dX0_repair_42 rfl (Nat.le_of_ble_eq_true rfl) ?_
  refine zFind_rule (P := fun t => ∀ M1, zRu r u M M1 → M1.1 u 5 = M.1 u 5 → M1.1 u 4 = nI (rep + t) → zRg M1 r (vrk (vadd v s k) ((vord v 0).2 k) t) → zJ yX0_repair cX0_repair 8 none rX0_repair Q X 0 0 44 [some (.ref u), some (.ref r), some (.int (nI k)), some (.int (nI ((vord v 0).2 k))), some (.int (nI (vcost (vadd v s k) ((vord v 0).2 k)))), some (.int (nI t)), none, none] [] M1) (n := 10) (p := fun t => vstop (vrk (vadd v s k) ((vord v 0).2 k) t) ((vord v 0).2 k)) ?_ ?_ _ (zRu.rf.ring hur (fun a ha => zU_off (by omega)) rfl) (by dsimp only; rw [zU_ne (by omega)]) (by dsimp only; rw [zU_ne (by omega)]; exact hrep) (hR.setP hS hb)
  · intro t ht hf hk9 M1 hF1 h51 hm1 hR1
    obtain ⟨hrk, r4⟩ := vrk_ok hS1 hg1 t hf
    have ev := vrk_vsh hrk
    obtain ⟨w1, w2, w3⟩ := hrk
    have hg2 : (vord v 0).2 k < (vrk (vadd v s k) ((vord v 0).2 k) t) 8 := by rw [w2 8 (by omega)]; exact hg1
    have ec : vcost (vrk (vadd v s k) ((vord v 0).2 k) t) ((vord v 0).2 k) = vcost (vadd v s k) ((vord v 0).2 k) := by unfold vcost; rw [show gp (vrk (vadd v s k) ((vord v 0).2 k) t) ((vord v 0).2 k) 2 = gp (vadd v s k) ((vord v 0).2 k) 2 from w2 _ (by omega), show gp (vrk (vadd v s k) ((vord v 0).2 k) t) ((vord v 0).2 k) 4 = gp (vadd v s k) ((vord v 0).2 k) 4 from w2 _ (by omega)]
    have hn6 := w1.nN
    have h10 := (w1.sh hg2).2
    have hp7 : (vrk (vadd v s k) ((vord v 0).2 k) t) (268 + 23 * ((vord v 0).2 k) + 6) ≤ 7000 := (w1.grp hg2).2.2.2.2.2.2.2.2.2.2
    refine zj_iload5 (n := 46) rfl dX0_repair_44 ?_
    refine zj_bipushN (v := 10) (n := 48) rfl dX0_repair_46 (by decide) ?_
    refine zj_icmpN_ge (n := 51) (tgt := 133) rfl dX0_repair_48 (by decide) (by omega) (by omega) (fun c48 => by omega) (fun c48 => ?_)
    refine zj_aload1 (n := 52) rfl dX0_repair_51 ?_
    refine zj_iload3 (n := 53) rfl dX0_repair_52 ?_
    refine zj_callV1 (n := 56) (a' := 0) (b' := 0) rfl dX0_repair_53 zm_X0_149 (by decide) hR.i.lt (by rw [hR.i.ty]; rfl) (Nat.le_of_ble_eq_true rfl) (Nat.le_of_ble_eq_true rfl) (Nat.le_of_ble_eq_true rfl) (Nat.le_of_ble_eq_true rfl) (jX6_missingSet hR1 w1 hg2 ?_)
    refine zj_istore6 (n := 58) rfl dX0_repair_56 rfl (Nat.le_of_ble_eq_true rfl) ?_
    refine zj_aload1 (n := 59) rfl dX0_repair_58 ?_
    refine zj_iload3 (n := 60) rfl dX0_repair_59 ?_
    refine zj_callV1 (n := 63) (a' := 0) (b' := 0) rfl dX0_repair_60 zm_X0_82 (by decide) hR.i.lt (by rw [hR.i.ty]; rfl) (Nat.le_of_ble_eq_true rfl) (Nat.le_of_ble_eq_true rfl) (Nat.le_of_ble_eq_true rfl) (Nat.le_of_ble_eq_true rfl) (jX6_targetOf hR1 w1 hg2 ?_)
    refine zj_istore7 (n := 65) rfl dX0_repair_63 rfl (Nat.le_of_ble_eq_true rfl) ?_
    refine zj_iload6 (n := 67) rfl dX0_repair_65 ?_
    refine zj_ifN_eq (n := 70) (tgt := 91) rfl dX0_repair_67 (by decide) (vmiss_lt (by omega)) (fun c67 => ?_) (fun c67 => ?_)
    · -- 
      refine zj_return dX0_repair_91 rfl ?_
      have ek : vrn (vadd v s k) ((vord v 0).2 k) = t := zFst_eq (p := fun k9 => vstop (vrk (vadd v s k) ((vord v 0).2 k) k9) ((vord v 0).2 k)) (show t < 11 by omega) (by unfold vstop; rw [vmiss_0.mp c67, Bool.and_false]; rfl) hf
      rw [ek] at h
      exact h M1 hF1 h51 hm1 hR1
    · have hdm : vdam (vrk (vadd v s k) ((vord v 0).2 k) t) 0 ((vord v 0).2 k) = true := by cases e : vdam (vrk (vadd v s k) ((vord v 0).2 k) t) 0 ((vord v 0).2 k) with | true => rfl | false => have := vmiss_0.mpr e; omega
      have hlt : zFst (vsh (vrk (vadd v s k) ((vord v 0).2 k) t) ((vord v 0).2 k)) (fun j => !vav (vrk (vadd v s k) ((vord v 0).2 k) t) 0 ((vord v 0).2 k) j) < vsh (vrk (vadd v s k) ((vord v 0).2 k) t) ((vord v 0).2 k) := vfm_lt hdm
      have hlt2 : vfm (vrk (vadd v s k) ((vord v 0).2 k) t) 0 ((vord v 0).2 k) < vsh (vrk (vadd v s k) ((vord v 0).2 k) t) ((vord v 0).2 k) := hlt
      refine zj_iload7 (n := 72) rfl dX0_repair_70 ?_
      refine zj_iconst_m1 (n := 73) rfl dX0_repair_72 ?_
      refine zj_icmpO_eq (n := 76) (tgt := 91) rfl dX0_repair_73 (by decide) (fun m hm => by cases e : vdam (vrk (vadd v s k) ((vord v 0).2 k) t) 0 ((vord v 0).2 k) with | true => (rw [e, if_pos rfl] at hm; have := (vpm_can hm).1; omega) | false => (rw [e, if_neg (by decide)] at hm; cases hm)) (fun c73 => ?_) (fun m73 c73 => ?_)
      · have c73x := c73
        rw [hdm, if_pos rfl] at c73x
        refine zj_return dX0_repair_91 rfl ?_
        have ek : vrn (vadd v s k) ((vord v 0).2 k) = t := zFst_eq (p := fun k9 => vstop (vrk (vadd v s k) ((vord v 0).2 k) k9) ((vord v 0).2 k)) (show t < 11 by omega) (by unfold vstop; rw [c73x]; simp) hf
        rw [ek] at h
        exact h M1 hF1 h51 hm1 hR1
      · have c73x := c73
        rw [hdm, if_pos rfl] at c73x
        obtain ⟨hto, hup, hno, hro⟩ := vpm_can c73x
        have hne : hol (vrk (vadd v s k) ((vord v 0).2 k) t) ((vord v 0).2 k) (vfm (vrk (vadd v s k) ((vord v 0).2 k) t) 0 ((vord v 0).2 k)) ≠ m73 := vhas_f hno hlt
        rw [c73]
        refine zj_aload1 (n := 77) rfl dX0_repair_76 ?_
        refine zj_getr (n := 80) (q := r + 5) rfl dX0_repair_77 zf_X0_30 rfl hR.i.lt hR.i.ty rfl ?_
        refine zj_iload3 (n := 81) rfl dX0_repair_80 ?_
        refine zj_bipushN (v := 6) (n := 83) rfl dX0_repair_81 (by decide) ?_
        refine zj_callV2 (n := 86) (a' := 0) (b' := 0) rfl dX0_repair_83 zm_X0_50 (by decide) (hR.i.ltc (c := 5) (by decide)) (by rw [(hR.i.ty1 (c := 5) (by decide))]; rfl) (Nat.le_of_ble_eq_true rfl) (Nat.le_of_ble_eq_true rfl) (Nat.le_of_ble_eq_true rfl) (Nat.le_of_ble_eq_true rfl) (jT_get (e := (vrk (vadd v s k) ((vord v 0).2 k) t) (268 + 23 * ((vord v 0).2 k) + 6)) hR1.g.1 hg2 (by decide) (hR1.g.c hg2 (by decide)) ?_)
        refine zj_iload4 (n := 88) rfl dX0_repair_86 ?_
        refine zj_icmpN_ge (n := 91) (tgt := 92) rfl dX0_repair_88 (by decide) (by omega) (by omega) (fun c88 => ?_) (fun c88 => ?_)
        · refine zj_aload1 (n := 93) rfl dX0_repair_92 ?_
          refine zj_iload3 (n := 94) rfl dX0_repair_93 ?_
          refine zj_iload6 (n := 96) rfl dX0_repair_94 ?_
          refine zj_callSN1 (n := 99) (a' := 0) (b' := 0) rfl dX0_repair_96 zm_X0_152 (by decide) (Nat.le_of_ble_eq_true rfl) (Nat.le_of_ble_eq_true rfl) (Nat.le_of_ble_eq_true rfl) (Nat.le_of_ble_eq_true rfl) (jX9_lowestOf (n := vsh (vrk (vadd v s k) ((vord v 0).2 k) t) ((vord v 0).2 k)) (p := fun j => !vav (vrk (vadd v s k) ((vord v 0).2 k) t) 0 ((vord v 0).2 k) j) h10 hlt ?_)
          refine zj_iload7 (n := 101) rfl dX0_repair_99 ?_
          refine zj_callV3 (n := 104) (a' := 0) (b' := 0) rfl dX0_repair_101 zm_X0_155 (by decide) hR.i.lt (by rw [hR.i.ty]; rfl) (Nat.le_of_ble_eq_true rfl) (Nat.le_of_ble_eq_true rfl) (Nat.le_of_ble_eq_true rfl) (Nat.le_of_ble_eq_true rfl) (jX6_put hR1 w1 hg2 hlt2 hto hne ?_)
          intro Mp hFq hLp hRp
          have hFp : ∀ a, (a < r ∨ r + 8 < a) → Mp.1 a = M1.1 a := fun a ha => hFq a (by omega) (by omega)
          have hg3 : (vord v 0).2 k < vset (vrk (vadd v s k) ((vord v 0).2 k) t) (268 + 23 * ((vord v 0).2 k) + 7 + vfm (vrk (vadd v s k) ((vord v 0).2 k) t) 0 ((vord v 0).2 k)) m73 8 := by rw [vset_off (by omega)]; exact hg2
          refine zj_aload1 (n := 105) rfl dX0_repair_104 ?_
          refine zj_getr (n := 108) (q := r + 5) rfl dX0_repair_105 zf_X0_30 rfl hR.i.lt hR.i.ty rfl ?_
          refine zj_iload3 (n := 109) rfl dX0_repair_108 ?_
          refine zj_bipushN (v := 6) (n := 111) rfl dX0_repair_109 (by decide) ?_
          refine zj_iload4 (n := 113) rfl dX0_repair_111 ?_
          refine zj_ineg (n := 114) rfl dX0_repair_113 ?_
          refine zj_callV3 (n := 117) (a' := 0) (b' := 0) rfl dX0_repair_114 zm_X0_145 (by decide) (hR.i.ltc (c := 5) (by decide)) (by rw [(hR.i.ty1 (c := 5) (by decide))]; rfl) (Nat.le_of_ble_eq_true rfl) (Nat.le_of_ble_eq_true rfl) (Nat.le_of_ble_eq_true rfl) (Nat.le_of_ble_eq_true rfl) (jT_inc (e := (vrk (vadd v s k) ((vord v 0).2 k) t) (268 + 23 * ((vord v 0).2 k) + 6)) hRp.g.1 hg3 (by decide) ((hRp.g.c hg3 (j := 6) (by decide)).trans (by rw [vset_off (by omega)])) ?_)
          rw [zaddneg (by rw [← ec]; rw [ec]; exact c88)]
          have ef : vstop (vrk (vadd v s k) ((vord v 0).2 k) t) ((vord v 0).2 k) = false := by unfold vstop; rw [decide_eq_true (show vcost (vrk (vadd v s k) ((vord v 0).2 k) t) ((vord v 0).2 k) ≤ _ by rw [ec]; exact c88), hdm, c73x]; rfl
          have hSp : zWF (vset (vrk (vadd v s k) ((vord v 0).2 k) t) (268 + 23 * ((vord v 0).2 k) + 7 + vfm (vrk (vadd v s k) ((vord v 0).2 k) t) 0 ((vord v 0).2 k)) m73) := by
            have e9 := vrep1_wf w1 hg2 hlt2 c73x
            refine w1.ofGrp hg2 (fun i hi => vset_off (by omega)) (by rw [vset_off (by omega)]; exact hp7) (fun j hj => ?_) (fun j t9 hj ht9 e => ?_)
            · by_cases q : j = vfm (vrk (vadd v s k) ((vord v 0).2 k) t) 0 ((vord v 0).2 k)
              · rw [q, show 268 + 23 * ((vord v 0).2 k) + (7 + vfm (vrk (vadd v s k) ((vord v 0).2 k) t) 0 ((vord v 0).2 k)) = 268 + 23 * ((vord v 0).2 k) + 7 + vfm (vrk (vadd v s k) ((vord v 0).2 k) t) 0 ((vord v 0).2 k) by omega, vset_at]; exact hto
              · rw [vset_off (by omega)]; exact w1.holds hg2 hj
            · have x1 : ∀ i, i < vsh (vrk (vadd v s k) ((vord v 0).2 k) t) ((vord v 0).2 k) → vset (vrk (vadd v s k) ((vord v 0).2 k) t) (268 + 23 * ((vord v 0).2 k) + 7 + vfm (vrk (vadd v s k) ((vord v 0).2 k) t) 0 ((vord v 0).2 k)) m73 (268 + 23 * ((vord v 0).2 k) + (7 + i)) = vrep1 (vrk (vadd v s k) ((vord v 0).2 k) t) ((vord v 0).2 k) (vfm (vrk (vadd v s k) ((vord v 0).2 k) t) 0 ((vord v 0).2 k)) m73 (268 + 23 * ((vord v 0).2 k) + (7 + i)) := fun i hi => by unfold vrep1; rw [vset_off (show 268 + 23 * ((vord v 0).2 k) + (7 + i) ≠ 268 + 23 * ((vord v 0).2 k) + 6 by omega)]
              rw [x1 j hj, x1 t9 ht9] at e
              exact e9.one (show (vord v 0).2 k < vrep1 (vrk (vadd v s k) ((vord v 0).2 k) t) ((vord v 0).2 k) (vfm (vrk (vadd v s k) ((vord v 0).2 k) t) 0 ((vord v 0).2 k)) m73 8 by rw [vrep1_off (by omega) (by omega)]; exact hg2) (by rw [vrep1_vsh (by omega)]; exact hj) (by rw [vrep1_vsh (by omega)]; exact ht9) e
          refine zj_gen (fun MQ => zRu r u M MQ ∧ MQ.1 u 5 = M.1 u 5 ∧ MQ.1 u 4 = nI (rep + t) ∧ zRg MQ r (vrk (vadd v s k) ((vord v 0).2 k) (t + 1))) ⟨(hF1.ring hur hFp hLp).ring hur (fun a ha => zU_off (by omega)) rfl, by dsimp only; rw [zU_ne (by omega), hFp u (by omega)]; exact h51, by dsimp only; rw [zU_ne (by omega), hFp u (by omega)]; exact hm1, (hRp.setP hSp hg3).eqv (by rw [vrk_succ c73x]; unfold vrep1; rw [ec]; rfl)⟩ (fun MQ hQ => ?_)
          obtain ⟨hFQ, h5Q, h4Q, hRQ⟩ := hQ
          refine zj_aload0 (n := 118) rfl dX0_repair_117 ?_
          refine zj_dupr (n := 119) rfl dX0_repair_118 ?_
          refine zj_getiN (e := rep + t) (n := 122) rfl dX0_repair_119 zf_X0_125 rfl hu.lt hu.ty h4Q ?_
          refine zj_iconstN_1 (n := 123) rfl dX0_repair_122 ?_
          refine zj_iaddN (n := 124) rfl dX0_repair_123 ?_
          refine zj_puti (n := 127) rfl dX0_repair_124 zp_X0_125 rfl hu.lt hu.ty ?_
          refine zj_iincN5 (n := 130) rfl dX0_repair_127 rfl (Nat.le_of_ble_eq_true rfl) ?_
          refine zj_goto (tgt := 44) dX0_repair_130 (by decide) ?_
          refine zj_keep [true, true, true, true, true, true, false, false] ?_
          exact hk9 ef _ (hFQ.put (by omega)) (by dsimp only; rw [zU_nj (by decide)]; exact h5Q) (by dsimp only; exact zU_eq) (hRQ.uput hur)
        · refine zj_return dX0_repair_91 rfl ?_
          have ek : vrn (vadd v s k) ((vord v 0).2 k) = t := zFst_eq (p := fun k9 => vstop (vrk (vadd v s k) ((vord v 0).2 k) k9) ((vord v 0).2 k)) (show t < 11 by omega) (by unfold vstop; rw [decide_eq_false (by rw [ec]; exact Nat.not_le.mpr c88)]; rfl) hf
          rw [ek] at h
          exact h M1 hF1 h51 hm1 hR1
  · intro hf M1 hF1 h51 hm1 hR1
    refine zj_iload5 (n := 46) rfl dX0_repair_44 ?_
    refine zj_bipushN (v := 10) (n := 48) rfl dX0_repair_46 (by decide) ?_
    refine zj_icmpN_ge (n := 51) (tgt := 133) rfl dX0_repair_48 (by decide) (by omega) (by omega) (fun c48 => ?_) (fun c48 => by omega)
    refine zj_return dX0_repair_133 rfl ?_
    have hst := vrk_stops hS1 hg1 hf
    have ek : vrn (vadd v s k) ((vord v 0).2 k) = 10 := zFst_eq (p := fun k9 => vstop (vrk (vadd v s k) ((vord v 0).2 k) k9) ((vord v 0).2 k)) (by decide) hst hf
    rw [ek] at h
    exact h M1 hF1 h51 hm1 hR1
