/-! THE CLASS'S RINGS: state, history, copies -/
theorem zWF.setN {v : zV} (hW : zWF v) {n d x : Nat} (hn : n < v 6) (hd : d = 2 ∧ x ≤ 999 ∨ d = 4 ∧ x ≤ 2 ∨ d = 5) : zWF (vset v (10 + 12 * n + d) x) := by
  have hn6 := hW.nN
  have hn7 := hW.tN
  have hn8 := hW.gN
  have hn9 := hW.hN
  have e : ∀ i, i ≠ 10 + 12 * n + d → vset v (10 + 12 * n + d) x i = v i := fun i hi => vset_off hi
  have e6 := e 6 (by omega)
  have e7 := e 7 (by omega)
  have e8 := e 8 (by omega)
  have e9 := e 9 (by omega)
  have hsh : ∀ g, g < v 8 → vsh v g ≤ 10 := fun g hg => (hW.sh hg).2
  have eS : ∀ g, vsh (vset v (10 + 12 * n + d) x) g = vsh v g := fun g => (vcost_vg (fun c hc => e _ (by omega))).2
  obtain ⟨h0, h1, h2, h3, h4, h6, h7, h8, h9, hnn, ha, ht, hg, hh, hi, hk⟩ := hW
  refine ⟨by rw [e 0 (by omega)]; exact h0, by rw [e 1 (by omega)]; exact h1, by rw [e 2 (by omega)]; exact h2, by rw [e 3 (by omega)]; exact h3, by rw [e 4 (by omega)]; exact h4, by rw [e6]; exact h6, by rw [e7]; exact h7, by rw [e8]; exact h8, by rw [e9]; exact h9, ?_, ?_, ?_, ?_, ?_, ?_, ?_⟩
  · intro m q
    rw [e6] at q
    obtain ⟨a0, a1, a2, a3, a4⟩ := hnn m q
    simp only [nd]
    rw [e (10 + 12 * m + 0) (by omega), e (10 + 12 * m + 1) (by omega), e (10 + 12 * m + 3) (by omega)]
    refine ⟨a0, a1, ?_, a3, ?_⟩
    · by_cases w : m = n ∧ d = 2
      · obtain ⟨rfl, rfl⟩ := w
        rw [vset_at]; omega
      · rw [e _ (by omega)]; exact a2
    · by_cases w : m = n ∧ d = 4
      · obtain ⟨rfl, rfl⟩ := w
        rw [vset_at]; omega
      · rw [e _ (by omega)]; exact a4
  · intro m l q q2 w
    rw [e6] at q q2
    simp only [nd] at w
    rw [e _ (by omega), e _ (by omega)] at w
    exact ha m l q q2 w
  · intro t q
    rw [e7] at q
    simp only [tn]
    rw [e _ (by omega), e _ (by omega), e _ (by omega), e _ (by omega)]
    exact ht t q
  · intro g q
    rw [e8] at q
    simp only [gp]
    rw [e (268 + 23 * g + 0) (by omega), e (268 + 23 * g + 1) (by omega), e (268 + 23 * g + 2) (by omega), e (268 + 23 * g + 3) (by omega), e (268 + 23 * g + 4) (by omega), e (268 + 23 * g + 5) (by omega), e (268 + 23 * g + 6) (by omega), e7]
    exact hg g q
  · intro g j q q2
    rw [e8] at q
    rw [eS] at q2
    have := hsh g q
    show vset v (10 + 12 * n + d) x (268 + 23 * g + (7 + j)) < vset v (10 + 12 * n + d) x 6
    rw [e6, e _ (by omega)]; exact hh g j q q2
  · intro g j t q q2 q3 w
    rw [e8] at q
    rw [eS] at q2 q3
    have := hsh g q
    simp only [hol, gp] at w
    rw [e _ (by omega), e _ (by omega)] at w
    exact hi g j t q q2 q3 w
  · intro k q
    rw [e9] at q
    show vset v (10 + 12 * n + d) x (498 + 5 * k + 2) ≤ 9999
    rw [e _ (by omega)]
    exact hk k q
theorem jX6_setState {r : Nat} {v : zV} {n x : Nat} {Q : Option Value → zM → Prop} {X : String → zM → Prop} {M : zM} (hR : zRg M r v) (hW : zWF v) (hn : n < v 6) (hx : x ≤ 2) (h : ∀ M', (∀ a, a ≠ r + 2 → M'.1 a = M.1 a) → M'.2 = M.2 → zRg M' r (vset (vset v (10 + 12 * n + 4) x) (10 + 12 * n + 5) (v 5)) → Q none M') : zJ yX6_setState cX6_setState 3 none rX6_setState Q X rX6_setState.cells rX6_setState.slots 0 (zEnt 3 [.ref r, .int (nI n), .int (nI x)]) [] M := by
  have h6 := hW.nN
  have hR1 := hR.setN (c := 5) (d := 4) (x := x) hW hn (by omega)
  have hW1 := hW.setN (d := 4) (x := x) hn (by omega)
  show zJ yX6_setState cX6_setState 3 none rX6_setState Q X 0 0 0 [some (.ref r), some (.int (nI n)), some (.int (nI x))] [] M
  refine zj_aload0 (n := 1) rfl dX6_setState_0 ?_
  refine zj_getr (n := 4) (q := r + 1) rfl dX6_setState_1 zf_X6_14 rfl hR.i.lt hR.i.ty rfl ?_
  refine zj_iload1 (n := 5) rfl dX6_setState_4 ?_
  refine zj_iconstN_5 (n := 6) rfl dX6_setState_5 ?_
  refine zj_iload2 (n := 7) rfl dX6_setState_6 ?_
  refine zj_callV3 (n := 10) (a' := 0) (b' := 0) rfl dX6_setState_7 zm_X6_67 (by decide) (hR.i.ltc (c := 1) (by decide)) (by rw [(hR.i.ty1 (c := 1) (by decide))]; rfl) (Nat.le_of_ble_eq_true rfl) (Nat.le_of_ble_eq_true rfl) (Nat.le_of_ble_eq_true rfl) (Nat.le_of_ble_eq_true rfl) (jT_set hR.n.1 hn (by decide) ?_)
  refine zj_aload0 (n := 11) rfl dX6_setState_10 ?_
  refine zj_getr (n := 14) (q := r + 1) rfl dX6_setState_11 zf_X6_14 rfl hR.i.lt hR.i.ty rfl ?_
  refine zj_iload1 (n := 15) rfl dX6_setState_14 ?_
  refine zj_bipushN (v := 6) (n := 17) rfl dX6_setState_15 (by decide) ?_
  refine zj_aload0 (n := 18) rfl dX6_setState_17 ?_
  refine zj_getiN (e := v 5) (n := 21) rfl dX6_setState_18 zf_X6_52 rfl hR.i.lt hR.i.ty (by dsimp only; rw [zU_ne (by omega)]; exact hR.s 5 (by decide)) ?_
  refine zj_callV3 (n := 24) (a' := 0) (b' := 0) rfl dX6_setState_21 zm_X6_67 (by decide) (hR.i.ltc (c := 1) (by decide)) (by rw [(hR.i.ty1 (c := 1) (by decide))]; rfl) (Nat.le_of_ble_eq_true rfl) (Nat.le_of_ble_eq_true rfl) (Nat.le_of_ble_eq_true rfl) (Nat.le_of_ble_eq_true rfl) (jT_set hR1.n.1 (show n < vset v (10 + 12 * n + 4) x 6 by rw [vset_off (by omega)]; exact hn) (by decide) ?_)
  exact zj_return dX6_setState_24 rfl (h _ (fun a h1 => by dsimp only; rw [zU_off h1, zU_off h1]) rfl (hR1.setN (c := 6) (d := 5) hW1 (by rw [vset_off (by omega)]; exact hn) (by omega)))
theorem zRg.note {M M2 : zM} {r sold price bids rep : Nat} {s : zV} (hR : zRg M r s) (hW : zWF s) (h9 : s 9 < 40) (hF : ∀ a, a ≠ r → a ≠ r + 7 → a ≠ r + 8 → M2.1 a = M.1 a) (hr : ∀ j, M2.1 r j = if j = 9 then nI (s 5 + 1) else M.1 r j) (hT : zTN M2 (r + 7) 5 40 (s 9 + 1)) (hlo : ∀ j, j < s 9 * 5 → M2.1 (r + 8) j = M.1 (r + 8) j)
    (h0 : M2.1 (r + 8) (s 9 * 5 + 0) = nI (s 5)) (h1 : M2.1 (r + 8) (s 9 * 5 + 1) = nI sold) (h2 : M2.1 (r + 8) (s 9 * 5 + 2) = nI price) (h3 : M2.1 (r + 8) (s 9 * 5 + 3) = nI bids) (h4 : M2.1 (r + 8) (s 9 * 5 + 4) = nI rep) : zRg M2 r (vset (vrec s sold price bids rep) 5 (s 5 + 1)) := by
  have hsh : ∀ g, g < s 8 → vsh s g ≤ 10 := fun g hg => (hW.sh hg).2
  have e : ∀ i, i < 498 → i ≠ 5 → i ≠ 9 → vset (vrec s sold price bids rep) 5 (s 5 + 1) i = s i := fun i hi h5 h9 => by rw [vset_off h5, vrec_off (by omega) h9]
  have e8 := e 8 (by omega) (by omega) (by omega)
  have h8 := hW.gN
  refine ⟨hR.i, (hR.n.cg (hF _ (by omega) (by omega) (by omega)) (hF _ (by omega) (by omega) (by omega))).vg (fun i _ _ _ q hi => e i (by omega) (by omega) q) (fun n _ => ?_), (hR.t.cg (hF _ (by omega) (by omega) (by omega)) (hF _ (by omega) (by omega) (by omega))).vg (e 7 (by omega) (by omega) (by omega)) (fun i _ hi => e i (by omega) (by omega) (by omega)), ?_, ⟨?_, fun k hk j hj => ?_⟩, fun j hj => ?_⟩
  · rw [e8]; exact vcnt_vg h8 hsh (fun i h1 h2 => e i (by omega) (by omega) (by omega))
  · rw [e8]
    exact (hR.g.cg (hF _ (by omega) (by omega) (by omega)) (hF _ (by omega) (by omega) (by omega))).vg (fun i h1 h2 => e i (by omega) (by omega) (by omega)) (fun g hg => ⟨(vcost_vg (fun c hc => e _ (by omega) (by omega) (by omega))).2, hsh g hg⟩)
  · rw [vset_off (by omega), vrec_9]; exact hT
  · rw [vset_off (by omega), vrec_9] at hk
    rcases Nat.lt_or_ge k (s 9) with q | q
    · rw [vset_off (by omega), vrec_off (by omega) (by omega), hlo _ (by omega)]
      exact hR.p.c q hj
    · have : k = s 9 := by omega
      subst this
      rw [vset_off (by omega)]
      unfold vrec
      rw [vset_off (show 498 + 5 * s 9 + j ≠ 9 by omega)]
      have : j = 0 ∨ j = 1 ∨ j = 2 ∨ j = 3 ∨ j = 4 := by omega
      rcases this with rfl | rfl | rfl | rfl | rfl
      · rw [vset_off (by omega), vset_off (by omega), vset_off (by omega), vset_off (by omega), show 498 + 5 * s 9 + 0 = 498 + 5 * s 9 from rfl, vset_at]; exact h0
      · rw [vset_off (by omega), vset_off (by omega), vset_off (by omega), vset_at]; exact h1
      · rw [vset_off (by omega), vset_off (by omega), vset_at]; exact h2
      · rw [vset_off (by omega), vset_at]; exact h3
      · rw [vset_at]; exact h4
  · rw [hr]
    by_cases q : j = 5
    · subst q; rw [if_pos rfl, vset_at]
    · rw [if_neg (by omega), e j (by omega) q (by omega)]; exact hR.s j hj
theorem jX6_note_t {r sold price bids rep : Nat} {s : zV} {Q : Option Value → zM → Prop} {X : String → zM → Prop} {M : zM} (hR : zRg M r s) (hW : zWF s) (h9 : s 9 < 40) (h : ∀ M', (∀ a, a ≠ r → a ≠ r + 7 → a ≠ r + 8 → M'.1 a = M.1 a) → (∀ j, j ≠ 9 → M'.1 r j = M.1 r j) → M'.2 = M.2 → zRg M' r (vset (vrec s sold price bids rep) 5 (s 5 + 1)) → Q none M') : zJ yX6_note cX6_note 6 none rX6_note Q X 0 0 17 [some (.ref r), some (.int (nI sold)), some (.int (nI price)), some (.int (nI bids)), some (.int (nI rep)), none] [] M := by
  refine zj_aload0 (n := 18) rfl dX6_note_17 ?_
  refine zj_getr (n := 21) (q := r + 7) rfl dX6_note_18 zf_X6_26 rfl hR.i.lt hR.i.ty rfl ?_
  refine zj_getiN (e := s 9) (n := 24) rfl dX6_note_21 zf_X6_55 rfl (hR.i.ltc (c := 7) (by decide)) (hR.i.ty1 (c := 7) (by decide)) hR.p.1.2.2.2.1 ?_
  refine zj_istore5 (n := 26) rfl dX6_note_24 rfl (Nat.le_of_ble_eq_true rfl) ?_
  refine zj_aload0 (n := 27) rfl dX6_note_26 ?_
  refine zj_getr (n := 30) (q := r + 7) rfl dX6_note_27 zf_X6_26 rfl hR.i.lt hR.i.ty rfl ?_
  refine zj_iload5 (n := 32) rfl dX6_note_30 ?_
  refine zj_callV1 (n := 35) (a' := 0) (b' := 0) rfl dX6_note_32 zm_X6_125 (by decide) (hR.i.ltc (c := 7) (by decide)) (by rw [(hR.i.ty1 (c := 7) (by decide))]; rfl) (Nat.le_of_ble_eq_true rfl) (Nat.le_of_ble_eq_true rfl) (Nat.le_of_ble_eq_true rfl) (Nat.le_of_ble_eq_true rfl) (jX7_insertRow hR.p.1 (Nat.le_refl _) h9 ?_)
  intro M2 hF2 hL2 hT2 hz1 hz2 hz3
  refine zj_aload0 (n := 36) rfl dX6_note_35 ?_
  refine zj_getr (n := 39) (q := r + 7) rfl dX6_note_36 zf_X6_26 rfl hR.i.lt hR.i.ty rfl ?_
  refine zj_iload5 (n := 41) rfl dX6_note_39 ?_
  refine zj_iconstN_0 (n := 42) rfl dX6_note_41 ?_
  refine zj_aload0 (n := 43) rfl dX6_note_42 ?_
  refine zj_getiN (e := s 5) (n := 46) rfl dX6_note_43 zf_X6_52 rfl hR.i.lt hR.i.ty (by rw [hF2 r (by omega) (by omega)]; exact hR.s 5 (by decide)) ?_
  refine zj_callV3 (n := 49) (a' := 0) (b' := 0) rfl dX6_note_46 zm_X6_67 (by decide) (hR.i.ltc (c := 7) (by decide)) (by rw [(hR.i.ty1 (c := 7) (by decide))]; rfl) (Nat.le_of_ble_eq_true rfl) (Nat.le_of_ble_eq_true rfl) (Nat.le_of_ble_eq_true rfl) (Nat.le_of_ble_eq_true rfl) (jT_set hT2 (show s 9 < s 9 + 1 by omega) (by decide) ?_)
  refine zj_aload0 (n := 50) rfl dX6_note_49 ?_
  refine zj_getr (n := 53) (q := r + 7) rfl dX6_note_50 zf_X6_26 rfl hR.i.lt hR.i.ty rfl ?_
  refine zj_iload5 (n := 55) rfl dX6_note_53 ?_
  refine zj_iconstN_1 (n := 56) rfl dX6_note_55 ?_
  refine zj_iload1 (n := 57) rfl dX6_note_56 ?_
  refine zj_callV3 (n := 60) (a' := 0) (b' := 0) rfl dX6_note_57 zm_X6_67 (by decide) (hR.i.ltc (c := 7) (by decide)) (by rw [(hR.i.ty1 (c := 7) (by decide))]; rfl) (Nat.le_of_ble_eq_true rfl) (Nat.le_of_ble_eq_true rfl) (Nat.le_of_ble_eq_true rfl) (Nat.le_of_ble_eq_true rfl) (jT_set (hT2.cg (zU_off (by omega))) (show s 9 < s 9 + 1 by omega) (by decide) ?_)
  refine zj_aload0 (n := 61) rfl dX6_note_60 ?_
  refine zj_getr (n := 64) (q := r + 7) rfl dX6_note_61 zf_X6_26 rfl hR.i.lt hR.i.ty rfl ?_
  refine zj_iload5 (n := 66) rfl dX6_note_64 ?_
  refine zj_iconstN_2 (n := 67) rfl dX6_note_66 ?_
  refine zj_iload2 (n := 68) rfl dX6_note_67 ?_
  refine zj_callV3 (n := 71) (a' := 0) (b' := 0) rfl dX6_note_68 zm_X6_67 (by decide) (hR.i.ltc (c := 7) (by decide)) (by rw [(hR.i.ty1 (c := 7) (by decide))]; rfl) (Nat.le_of_ble_eq_true rfl) (Nat.le_of_ble_eq_true rfl) (Nat.le_of_ble_eq_true rfl) (Nat.le_of_ble_eq_true rfl) (jT_set (hT2.cg ((zU_off (by omega)).trans (zU_off (by omega)))) (show s 9 < s 9 + 1 by omega) (by decide) ?_)
  refine zj_aload0 (n := 72) rfl dX6_note_71 ?_
  refine zj_getr (n := 75) (q := r + 7) rfl dX6_note_72 zf_X6_26 rfl hR.i.lt hR.i.ty rfl ?_
  refine zj_iload5 (n := 77) rfl dX6_note_75 ?_
  refine zj_iconstN_3 (n := 78) rfl dX6_note_77 ?_
  refine zj_iload3 (n := 79) rfl dX6_note_78 ?_
  refine zj_callV3 (n := 82) (a' := 0) (b' := 0) rfl dX6_note_79 zm_X6_67 (by decide) (hR.i.ltc (c := 7) (by decide)) (by rw [(hR.i.ty1 (c := 7) (by decide))]; rfl) (Nat.le_of_ble_eq_true rfl) (Nat.le_of_ble_eq_true rfl) (Nat.le_of_ble_eq_true rfl) (Nat.le_of_ble_eq_true rfl) (jT_set (hT2.cg ((zU_off (by omega)).trans ((zU_off (by omega)).trans (zU_off (by omega))))) (show s 9 < s 9 + 1 by omega) (by decide) ?_)
  refine zj_aload0 (n := 83) rfl dX6_note_82 ?_
  refine zj_getr (n := 86) (q := r + 7) rfl dX6_note_83 zf_X6_26 rfl hR.i.lt hR.i.ty rfl ?_
  refine zj_iload5 (n := 88) rfl dX6_note_86 ?_
  refine zj_iconstN_4 (n := 89) rfl dX6_note_88 ?_
  refine zj_iload4 (n := 91) rfl dX6_note_89 ?_
  refine zj_callV3 (n := 94) (a' := 0) (b' := 0) rfl dX6_note_91 zm_X6_67 (by decide) (hR.i.ltc (c := 7) (by decide)) (by rw [(hR.i.ty1 (c := 7) (by decide))]; rfl) (Nat.le_of_ble_eq_true rfl) (Nat.le_of_ble_eq_true rfl) (Nat.le_of_ble_eq_true rfl) (Nat.le_of_ble_eq_true rfl) (jT_set (hT2.cg ((zU_off (by omega)).trans ((zU_off (by omega)).trans ((zU_off (by omega)).trans (zU_off (by omega)))))) (show s 9 < s 9 + 1 by omega) (by decide) ?_)
  refine zj_aload0 (n := 95) rfl dX6_note_94 ?_
  refine zj_dupr (n := 96) rfl dX6_note_95 ?_
  refine zj_getiN (e := s 5) (n := 99) rfl dX6_note_96 zf_X6_52 rfl hR.i.lt hR.i.ty (by dsimp only; rw [zU_ne (by omega), zU_ne (by omega), zU_ne (by omega), zU_ne (by omega), zU_ne (by omega), hF2 r (by omega) (by omega)]; exact hR.s 5 (by decide)) ?_
  refine zj_iconstN_1 (n := 100) rfl dX6_note_99 ?_
  refine zj_iaddN (n := 101) rfl dX6_note_100 ?_
  refine zj_puti (n := 104) rfl dX6_note_101 zp_X6_52 rfl hR.i.lt hR.i.ty ?_
  refine zj_return dX6_note_104 rfl ?_
  have k0 : ∀ a, a ≠ r → a ≠ r + 7 → a ≠ r + 8 → (zU (zU (zU (zU (zU (zU M2.1 (r + 7 + 1) (s 9 * 5 + 0) (nI (s 5))) (r + 7 + 1) (s 9 * 5 + 1) (nI sold)) (r + 7 + 1) (s 9 * 5 + 2) (nI price)) (r + 7 + 1) (s 9 * 5 + 3) (nI bids)) (r + 7 + 1) (s 9 * 5 + 4) (nI rep)) r 9 (nI (s 5 + 1))) a = M.1 a := fun a h1 h2 h3 => by rw [zU_off h1, zU_off h3, zU_off h3, zU_off h3, zU_off h3, zU_off h3, hF2 a h2 h3]
  have k1 : ∀ j, (zU (zU (zU (zU (zU (zU M2.1 (r + 7 + 1) (s 9 * 5 + 0) (nI (s 5))) (r + 7 + 1) (s 9 * 5 + 1) (nI sold)) (r + 7 + 1) (s 9 * 5 + 2) (nI price)) (r + 7 + 1) (s 9 * 5 + 3) (nI bids)) (r + 7 + 1) (s 9 * 5 + 4) (nI rep)) r 9 (nI (s 5 + 1))) r j = if j = 9 then nI (s 5 + 1) else M.1 r j := fun j => by
    by_cases q : j = 9
    · subst q; rw [zU_eq, if_pos rfl]
    · rw [zU_nj q, if_neg q, zU_ne (by omega), zU_ne (by omega), zU_ne (by omega), zU_ne (by omega), zU_ne (by omega), hF2 r (by omega) (by omega)]
  refine h _ k0 (fun j hj => (k1 j).trans (if_neg hj)) hL2 (zRg.note hR hW h9 k0 k1 ?_ ?_ ?_ ?_ ?_ ?_ ?_)
  · exact hT2.cg (by dsimp only; rw [zU_off (by omega), zU_off (by omega), zU_off (by omega), zU_off (by omega), zU_off (by omega), zU_off (by omega)])
  · intro j hj
    dsimp only
    rw [zU_ne (by omega), zU_nj (by omega), zU_nj (by omega), zU_nj (by omega), zU_nj (by omega), zU_nj (by omega)]
    exact hz1 j hj
  · dsimp only
    rw [zU_ne (by omega), zU_nj (by omega), zU_nj (by omega), zU_nj (by omega), zU_nj (by omega)]; exact zU_eq
  · dsimp only
    rw [zU_ne (by omega), zU_nj (by omega), zU_nj (by omega), zU_nj (by omega)]; exact zU_eq
  · dsimp only
    rw [zU_ne (by omega), zU_nj (by omega), zU_nj (by omega)]; exact zU_eq
  · dsimp only
    rw [zU_ne (by omega), zU_nj (by omega)]; exact zU_eq
  · dsimp only
    rw [zU_ne (by omega)]; exact zU_eq
theorem zRg.shift {M M2 : zM} {r : Nat} {s : zV} (hR : zRg M r s) (hW : zWF s) (h9 : s 9 = 40) (hF : ∀ a, a ≠ r + 7 → a ≠ r + 8 → M2.1 a = M.1 a) (hT : zTN M2 (r + 7) 5 40 39) (hz : ∀ j, j < 39 * 5 → M2.1 (r + 8) j = M.1 (r + 8) (5 + j)) : zRg M2 r (vshift s) := by
  have hsh : ∀ g, g < s 8 → vsh s g ≤ 10 := fun g hg => (hW.sh hg).2
  have e : ∀ i, i < 498 → i ≠ 9 → vshift s i = s i := fun i hi h9 => by unfold vshift; rw [if_neg (by omega), if_neg h9]
  have e8 := e 8 (by omega) (by omega)
  have h8 := hW.gN
  refine ⟨hR.i, (hR.n.cg (hF _ (by omega) (by omega)) (hF _ (by omega) (by omega))).vg (fun i _ _ _ q hi => e i (by omega) q) (fun n _ => ?_), (hR.t.cg (hF _ (by omega) (by omega)) (hF _ (by omega) (by omega))).vg (e 7 (by omega) (by omega)) (fun i _ hi => e i (by omega) (by omega)), ?_, ⟨hT, fun k hk j hj => ?_⟩, (hR.s.cg (hF _ (by omega) (by omega))).vg (fun j hj => e j (by omega) (by omega))⟩
  · rw [e8]; exact vcnt_vg h8 hsh (fun i h1 h2 => e i (by omega) (by omega))
  · rw [e8]
    exact (hR.g.cg (hF _ (by omega) (by omega)) (hF _ (by omega) (by omega))).vg (fun i h1 h2 => e i (by omega) (by omega)) (fun g hg => ⟨(vcost_vg (fun c hc => e _ (by omega) (by omega))).2, hsh g hg⟩)
  · have hk : k < 39 := hk
    rw [hz _ (by omega), vshift_hi hk hj, show 5 + (k * 5 + j) = (k + 1) * 5 + j by omega]
    exact hR.p.c (by omega) hj
theorem vshift_wf {s : zV} (hW : zWF s) (h9 : s 9 = 40) : zWF (vshift s) := by
  have e9 : vshift s 9 = 39 := rfl
  refine hW.ofTop (fun i hi h4 h5 h9 => ?_) ?_ (by rw [e9]; decide) (fun k hk => ?_)
  · unfold vshift
    rw [if_neg (by omega), if_neg h9]
  · show vshift s 4 ≤ _
    exact hW.2.2.2.2.1
  · rw [e9] at hk
    show vshift s (498 + 5 * k + 2) ≤ _
    rw [vshift_hi hk (by decide)]
    exact hW.hist (by omega)
theorem jX6_note {r sold price bids rep : Nat} {s : zV} {Q : Option Value → zM → Prop} {X : String → zM → Prop} {M : zM} (hR : zRg M r s) (hW : zWF s) (h : ∀ M', (∀ a, a ≠ r → a ≠ r + 7 → a ≠ r + 8 → M'.1 a = M.1 a) → (∀ j, j ≠ 9 → M'.1 r j = M.1 r j) → M'.2 = M.2 → zRg M' r (vset (vrecord s sold price bids rep) 5 (s 5 + 1)) → Q none M') : zJ yX6_note cX6_note 6 none rX6_note Q X rX6_note.cells rX6_note.slots 0 (zEnt 6 [.ref r, .int (nI sold), .int (nI price), .int (nI bids), .int (nI rep)]) [] M := by
  show zJ yX6_note cX6_note 6 none rX6_note Q X 0 0 0 [some (.ref r), some (.int (nI sold)), some (.int (nI price)), some (.int (nI bids)), some (.int (nI rep)), none] [] M
  refine zj_aload0 (n := 1) rfl dX6_note_0 ?_
  refine zj_getr (n := 4) (q := r + 7) rfl dX6_note_1 zf_X6_26 rfl hR.i.lt hR.i.ty rfl ?_
  refine zj_callV0 (n := 7) (a' := 0) (b' := 0) rfl dX6_note_4 zm_X6_118 (by decide) (hR.i.ltc (c := 7) (by decide)) (by rw [(hR.i.ty1 (c := 7) (by decide))]; rfl) (Nat.le_of_ble_eq_true rfl) (Nat.le_of_ble_eq_true rfl) (Nat.le_of_ble_eq_true rfl) (Nat.le_of_ble_eq_true rfl) (jT_isFull hR.p.1 ?_)
  refine zj_ifB_eq (n := 10) (tgt := 17) rfl dX6_note_7 (by decide) (fun c7 => ?_) (fun c7 => ?_)
  · have h9 := of_decide_eq_false c7
    refine zj_room (a' := 0) (b' := 0) (Nat.zero_le _) (Nat.zero_le _) ?_
    exact jX6_note_t hR hW (by have := hW.hN; omega) (fun M' a1 a2 a3 a4 => h M' a1 a2 a3 (by unfold vrecord; rw [if_neg h9]; exact a4))
  · refine zj_aload0 (n := 11) rfl dX6_note_10 ?_
    refine zj_getr (n := 14) (q := r + 7) rfl dX6_note_11 zf_X6_26 rfl hR.i.lt hR.i.ty rfl ?_
    refine zj_callV0 (n := 17) (a' := 0) (b' := 0) rfl dX6_note_14 zm_X6_122 (by decide) (hR.i.ltc (c := 7) (by decide)) (by rw [(hR.i.ty1 (c := 7) (by decide))]; rfl) (Nat.le_of_ble_eq_true rfl) (Nat.le_of_ble_eq_true rfl) (Nat.le_of_ble_eq_true rfl) (Nat.le_of_ble_eq_true rfl) (jX7_dropFirstRow hR.p.1 (by have := of_decide_eq_true c7; omega) ?_)
    intro M2 hF2 hL2 hT2 hz2
    have h9 := of_decide_eq_true c7
    rw [h9] at hT2 hz2
    have hR2 := hR.shift hW h9 hF2 hT2 hz2
    refine zj_room (a' := 0) (b' := 0) (Nat.zero_le _) (Nat.zero_le _) ?_
    exact jX6_note_t hR2 (vshift_wf hW h9) (by rw [show vshift s 9 = 39 from rfl]; decide) (fun M' a1 a2 a3 a4 => h M' (fun a h1 h2 h3 => (a1 a h1 h2 h3).trans (hF2 a h2 h3)) (fun j hj => (a2 j hj).trans (by rw [hF2 r (by omega) (by omega)])) (a3.trans hL2) (by unfold vrecord; rw [if_pos h9]; exact a4))
/-- a ring is formed: its tables' columns -/
def zRf (M : zM) (r : Nat) : Prop := zRi r ∧ M.1 (r + 1) 0 = nI 8 ∧ M.1 (r + 3) 0 = nI 6 ∧ M.1 (r + 5) 0 = nI 21 ∧ M.1 (r + 7) 0 = nI 5
theorem zRf.cg {M M' : zM} {r : Nat} (h : zRf M r) (e : ∀ a, r ≤ a → a ≤ r + 8 → M'.1 a = M.1 a) : zRf M' r := ⟨h.1, by rw [e _ (by omega) (by omega)]; exact h.2.1, by rw [e _ (by omega) (by omega)]; exact h.2.2.1, by rw [e _ (by omega) (by omega)]; exact h.2.2.2.1, by rw [e _ (by omega) (by omega)]; exact h.2.2.2.2⟩
theorem zRg.f {M : zM} {r : Nat} {v : zV} (h : zRg M r v) : zRf M r := ⟨h.i, h.n.1.2.1, h.t.1.2.1, h.g.1.2.1, h.p.1.2.1⟩
theorem zRi.apart {r q : Nat} (h : zRi r) (h2 : zRi q) (hne : r ≠ q) : r + 9 ≤ q ∨ q + 9 ≤ r := by
  obtain ⟨a1, a2⟩ := h
  obtain ⟨b1, b2⟩ := h2
  omega
theorem zRg.copy {M M2 : zM} {r q : Nat} {v : zV} (hf : zRf M r) (hR : zRg M q v) (hW : zWF v) (h0 : ∀ c, c = 1 ∨ c = 3 ∨ c = 5 ∨ c = 7 → M2.1 (r + c) 0 = M.1 (r + c) 0 ∧ M2.1 (r + c) 2 = M.1 (q + c) 2) (hr : ∀ c, c = 1 ∨ c = 3 ∨ c = 5 ∨ c = 7 → ∀ j, j < zLen (r + c + 1) → M2.1 (r + c + 1) j = M.1 (q + c + 1) j) (hs : ∀ j, j < 6 → M2.1 r (4 + j) = M.1 q (4 + j)) : zRg M2 r v := by
  obtain ⟨i1, i2, i3, i4, i5⟩ := hf
  obtain ⟨l1, l2, l3, l4⟩ := i1.l2
  have n6 := hR.n.1.2.2.2.2.1
  have n7 := hR.t.1.2.2.2.2.1
  have n8 := hR.g.1.2.2.2.2.1
  have n9 := hR.p.1.2.2.2.2.1
  refine ⟨i1, ⟨⟨i1.tb (by omega), (h0 1 (by omega)).1.trans i2, l1, (h0 1 (by omega)).2.trans hR.n.1.2.2.2.1, n6, by decide, by decide⟩, fun n hn => ?_⟩, ⟨⟨i1.tb (by omega), (h0 3 (by omega)).1.trans i3, l2, (h0 3 (by omega)).2.trans hR.t.1.2.2.2.1, n7, by decide, by decide⟩, fun t ht => ?_⟩, ⟨⟨i1.tb (by omega), (h0 5 (by omega)).1.trans i4, l3, (h0 5 (by omega)).2.trans hR.g.1.2.2.2.1, n8, by decide, by decide⟩, fun g hg => ?_⟩, ⟨⟨i1.tb (by omega), (h0 7 (by omega)).1.trans i5, l4, (h0 7 (by omega)).2.trans hR.p.1.2.2.2.1, n9, by decide, by decide⟩, fun k hk j hj => ?_⟩, fun j hj => (hs j hj).trans (hR.s j hj)⟩
  · have key : ∀ j, j < 128 → M2.1 (r + 2) j = M.1 (q + 2) j := fun j hj => hr 1 (by omega) j (by rw [show r + 1 + 1 = r + 2 by omega, l1]; exact hj)
    rw [key _ (by omega), key _ (by omega), key _ (by omega), key _ (by omega), key _ (by omega), key _ (by omega), key _ (by omega), key _ (by omega)]
    exact hR.n.2 n hn
  · have key : ∀ j, j < 36 → M2.1 (r + 4) j = M.1 (q + 4) j := fun j hj => hr 3 (by omega) j (by rw [show r + 3 + 1 = r + 4 by omega, l2]; exact hj)
    exact ⟨fun j hj => by rw [key _ (by omega)]; exact hR.t.c ht hj, by rw [key _ (by omega)]; exact hR.t.nm ht⟩
  · have key : ∀ j, j < 210 → M2.1 (r + 6) j = M.1 (q + 6) j := fun j hj => hr 5 (by omega) j (by rw [show r + 5 + 1 = r + 6 by omega, l3]; exact hj)
    refine ⟨fun j hj => by rw [key _ (by omega)]; exact hR.g.c hg hj, by rw [key _ (by omega)]; exact hR.g.co hg, by rw [key _ (by omega)]; exact hR.g.n hg, fun s hs => ?_, fun s hs hs2 => by omega, by rw [key _ (by omega)]; exact hR.g.nm hg⟩
    have := (hW.sh hg).2
    rw [key _ (by omega)]; exact hR.g.sh hg hs
  · have key : ∀ j, j < 200 → M2.1 (r + 8) j = M.1 (q + 8) j := fun j hj => hr 7 (by omega) j (by rw [show r + 7 + 1 = r + 8 by omega, l4]; exact hj)
    rw [key _ (by omega)]; exact hR.p.c hk hj
theorem jX6_copyFrom {r q : Nat} {v : zV} {Q : Option Value → zM → Prop} {X : String → zM → Prop} {M : zM} (hf : zRf M r) (hR : zRg M q v) (hW : zWF v) (hne : r ≠ q) (h : ∀ M', (∀ a, (a < r ∨ r + 8 < a) → M'.1 a = M.1 a) → M'.2 = M.2 → zRg M' r v → Q none M') : zJ yX6_copyFrom cX6_copyFrom 2 none rX6_copyFrom Q X rX6_copyFrom.cells rX6_copyFrom.slots 0 (zEnt 2 [.ref r, .ref q]) [] M := by
  have hap := hf.1.apart hR.i hne
  have hlen : ∀ c, c = 1 ∨ c = 3 ∨ c = 5 ∨ c = 7 → zLen (q + c + 1) = zLen (r + c + 1) := fun c hc => by
    obtain ⟨l1, l2, l3, l4⟩ := hf.1.l2
    obtain ⟨m1, m2, m3, m4⟩ := hR.i.l2
    rcases hc with rfl | rfl | rfl | rfl
    · exact m1.trans l1.symm
    · exact m2.trans l2.symm
    · exact m3.trans l3.symm
    · exact m4.trans l4.symm
  show zJ yX6_copyFrom cX6_copyFrom 2 none rX6_copyFrom Q X 0 0 0 [some (.ref r), some (.ref q)] [] M
  refine zj_aload0 (n := 1) rfl dX6_copyFrom_0 ?_
  refine zj_getr (n := 4) (q := r + 1) rfl dX6_copyFrom_1 zf_X6_14 rfl hf.1.lt hf.1.ty rfl ?_
  refine zj_aload1 (n := 5) rfl dX6_copyFrom_4 ?_
  refine zj_getr (n := 8) (q := q + 1) rfl dX6_copyFrom_5 zf_X6_14 rfl hR.i.lt hR.i.ty rfl ?_
  refine zj_callV1 (n := 11) (a' := 0) (b' := 0) rfl dX6_copyFrom_8 zm_X6_36 (by decide) (hf.1.ltc (c := 1) (by decide)) (by rw [(hf.1.ty1 (c := 1) (by decide))]; rfl) (Nat.le_of_ble_eq_true rfl) (Nat.le_of_ble_eq_true rfl) (Nat.le_of_ble_eq_true rfl) (Nat.le_of_ble_eq_true rfl) (jX7_copyFrom (hf.1.tb (c := 1) (by decide)) (hR.i.tb (c := 1) (by decide)) (hlen 1 (by decide)) ?_)
  intro M1 hF1 hL1 hc1 hs1 hz1
  refine zj_aload0 (n := 12) rfl dX6_copyFrom_11 ?_
  refine zj_getr (n := 15) (q := r + 3) rfl dX6_copyFrom_12 zf_X6_20 rfl hf.1.lt hf.1.ty rfl ?_
  refine zj_aload1 (n := 16) rfl dX6_copyFrom_15 ?_
  refine zj_getr (n := 19) (q := q + 3) rfl dX6_copyFrom_16 zf_X6_20 rfl hR.i.lt hR.i.ty rfl ?_
  refine zj_callV1 (n := 22) (a' := 0) (b' := 0) rfl dX6_copyFrom_19 zm_X6_36 (by decide) (hf.1.ltc (c := 3) (by decide)) (by rw [(hf.1.ty1 (c := 3) (by decide))]; rfl) (Nat.le_of_ble_eq_true rfl) (Nat.le_of_ble_eq_true rfl) (Nat.le_of_ble_eq_true rfl) (Nat.le_of_ble_eq_true rfl) (jX7_copyFrom (hf.1.tb (c := 3) (by decide)) (hR.i.tb (c := 3) (by decide)) (hlen 3 (by decide)) ?_)
  intro M2 hF2 hL2 hc2 hs2 hz2
  refine zj_aload0 (n := 23) rfl dX6_copyFrom_22 ?_
  refine zj_getr (n := 26) (q := r + 5) rfl dX6_copyFrom_23 zf_X6_23 rfl hf.1.lt hf.1.ty rfl ?_
  refine zj_aload1 (n := 27) rfl dX6_copyFrom_26 ?_
  refine zj_getr (n := 30) (q := q + 5) rfl dX6_copyFrom_27 zf_X6_23 rfl hR.i.lt hR.i.ty rfl ?_
  refine zj_callV1 (n := 33) (a' := 0) (b' := 0) rfl dX6_copyFrom_30 zm_X6_36 (by decide) (hf.1.ltc (c := 5) (by decide)) (by rw [(hf.1.ty1 (c := 5) (by decide))]; rfl) (Nat.le_of_ble_eq_true rfl) (Nat.le_of_ble_eq_true rfl) (Nat.le_of_ble_eq_true rfl) (Nat.le_of_ble_eq_true rfl) (jX7_copyFrom (hf.1.tb (c := 5) (by decide)) (hR.i.tb (c := 5) (by decide)) (hlen 5 (by decide)) ?_)
  intro M3 hF3 hL3 hc3 hs3 hz3
  refine zj_aload0 (n := 34) rfl dX6_copyFrom_33 ?_
  refine zj_getr (n := 37) (q := r + 7) rfl dX6_copyFrom_34 zf_X6_26 rfl hf.1.lt hf.1.ty rfl ?_
  refine zj_aload1 (n := 38) rfl dX6_copyFrom_37 ?_
  refine zj_getr (n := 41) (q := q + 7) rfl dX6_copyFrom_38 zf_X6_26 rfl hR.i.lt hR.i.ty rfl ?_
  refine zj_callV1 (n := 44) (a' := 0) (b' := 0) rfl dX6_copyFrom_41 zm_X6_36 (by decide) (hf.1.ltc (c := 7) (by decide)) (by rw [(hf.1.ty1 (c := 7) (by decide))]; rfl) (Nat.le_of_ble_eq_true rfl) (Nat.le_of_ble_eq_true rfl) (Nat.le_of_ble_eq_true rfl) (Nat.le_of_ble_eq_true rfl) (jX7_copyFrom (hf.1.tb (c := 7) (by decide)) (hR.i.tb (c := 7) (by decide)) (hlen 7 (by decide)) ?_)
  intro M4 hF4 hL4 hc4 hs4 hz4
  have q4 : M4.1 q = M.1 q := by rw [hF4 q (by omega) (by omega), hF3 q (by omega) (by omega), hF2 q (by omega) (by omega), hF1 q (by omega) (by omega)]
  have hqr : q ≠ r := fun e => hne e.symm
  refine zj_aload0 (n := 45) rfl dX6_copyFrom_44 ?_
  refine zj_aload1 (n := 46) rfl dX6_copyFrom_45 ?_
  refine zj_getiN (e := v 0) (n := 49) rfl dX6_copyFrom_46 zf_X6_29 rfl hR.i.lt hR.i.ty (by (try simp only [zU_off hqr]); rw [q4]; exact hR.s 0 (by decide)) ?_
  refine zj_puti (n := 52) rfl dX6_copyFrom_49 zp_X6_29 rfl hf.1.lt hf.1.ty ?_
  refine zj_aload0 (n := 53) rfl dX6_copyFrom_52 ?_
  refine zj_aload1 (n := 54) rfl dX6_copyFrom_53 ?_
  refine zj_getiN (e := v 1) (n := 57) rfl dX6_copyFrom_54 zf_X6_40 rfl hR.i.lt hR.i.ty (by (try simp only [zU_off hqr]); rw [q4]; exact hR.s 1 (by decide)) ?_
  refine zj_puti (n := 60) rfl dX6_copyFrom_57 zp_X6_40 rfl hf.1.lt hf.1.ty ?_
  refine zj_aload0 (n := 61) rfl dX6_copyFrom_60 ?_
  refine zj_aload1 (n := 62) rfl dX6_copyFrom_61 ?_
  refine zj_getiN (e := v 2) (n := 65) rfl dX6_copyFrom_62 zf_X6_43 rfl hR.i.lt hR.i.ty (by (try simp only [zU_off hqr]); rw [q4]; exact hR.s 2 (by decide)) ?_
  refine zj_puti (n := 68) rfl dX6_copyFrom_65 zp_X6_43 rfl hf.1.lt hf.1.ty ?_
  refine zj_aload0 (n := 69) rfl dX6_copyFrom_68 ?_
  refine zj_aload1 (n := 70) rfl dX6_copyFrom_69 ?_
  refine zj_getiN (e := v 3) (n := 73) rfl dX6_copyFrom_70 zf_X6_46 rfl hR.i.lt hR.i.ty (by (try simp only [zU_off hqr]); rw [q4]; exact hR.s 3 (by decide)) ?_
  refine zj_puti (n := 76) rfl dX6_copyFrom_73 zp_X6_46 rfl hf.1.lt hf.1.ty ?_
  refine zj_aload0 (n := 77) rfl dX6_copyFrom_76 ?_
  refine zj_aload1 (n := 78) rfl dX6_copyFrom_77 ?_
  refine zj_getiN (e := v 4) (n := 81) rfl dX6_copyFrom_78 zf_X6_49 rfl hR.i.lt hR.i.ty (by (try simp only [zU_off hqr]); rw [q4]; exact hR.s 4 (by decide)) ?_
  refine zj_puti (n := 84) rfl dX6_copyFrom_81 zp_X6_49 rfl hf.1.lt hf.1.ty ?_
  refine zj_aload0 (n := 85) rfl dX6_copyFrom_84 ?_
  refine zj_aload1 (n := 86) rfl dX6_copyFrom_85 ?_
  refine zj_getiN (e := v 5) (n := 89) rfl dX6_copyFrom_86 zf_X6_52 rfl hR.i.lt hR.i.ty (by (try simp only [zU_off hqr]); rw [q4]; exact hR.s 5 (by decide)) ?_
  refine zj_puti (n := 92) rfl dX6_copyFrom_89 zp_X6_52 rfl hf.1.lt hf.1.ty ?_
  refine zj_return dX6_copyFrom_92 rfl ?_
  have kt : ∀ a, a ≠ r → (zU (zU (zU (zU (zU (zU M4.1 r 4 (nI (v 0))) r 5 (nI (v 1))) r 6 (nI (v 2))) r 7 (nI (v 3))) r 8 (nI (v 4))) r 9 (nI (v 5))) a = M4.1 a := fun a ha => by rw [zU_off ha, zU_off ha, zU_off ha, zU_off ha, zU_off ha, zU_off ha]
  refine h _ (fun a ha => by dsimp only; rw [kt a (by omega), hF4 a (by omega) (by omega), hF3 a (by omega) (by omega), hF2 a (by omega) (by omega), hF1 a (by omega) (by omega)]) (hL4.trans (hL3.trans (hL2.trans hL1))) (zRg.copy hf hR hW ?_ ?_ ?_)
  · intro c hc
    dsimp only
    rw [kt _ (by omega)]
    rcases hc with rfl | rfl | rfl | rfl
    · rw [hF4 _ (by omega) (by omega), hF3 _ (by omega) (by omega), hF2 _ (by omega) (by omega)]; exact ⟨hc1, hs1⟩
    · rw [hF4 _ (by omega) (by omega), hF3 _ (by omega) (by omega)]
      exact ⟨hc2.trans (by rw [hF1 _ (by omega) (by omega)]), hs2.trans (by rw [hF1 _ (by omega) (by omega)])⟩
    · rw [hF4 _ (by omega) (by omega)]
      exact ⟨hc3.trans (by rw [hF2 _ (by omega) (by omega), hF1 _ (by omega) (by omega)]), hs3.trans (by rw [hF2 _ (by omega) (by omega), hF1 _ (by omega) (by omega)])⟩
    · exact ⟨hc4.trans (by rw [hF3 _ (by omega) (by omega), hF2 _ (by omega) (by omega), hF1 _ (by omega) (by omega)]), hs4.trans (by rw [hF3 _ (by omega) (by omega), hF2 _ (by omega) (by omega), hF1 _ (by omega) (by omega)])⟩
  · intro c hc j hj
    dsimp only
    rw [kt _ (by omega)]
    rcases hc with rfl | rfl | rfl | rfl
    · rw [hF4 _ (by omega) (by omega), hF3 _ (by omega) (by omega), hF2 _ (by omega) (by omega)]; exact hz1 j hj
    · rw [hF4 _ (by omega) (by omega), hF3 _ (by omega) (by omega), hz2 j hj, hF1 _ (by omega) (by omega)]
    · rw [hF4 _ (by omega) (by omega), hz3 j hj, hF2 _ (by omega) (by omega), hF1 _ (by omega) (by omega)]
    · rw [hz4 j hj, hF3 _ (by omega) (by omega), hF2 _ (by omega) (by omega), hF1 _ (by omega) (by omega)]
  · intro j hj
    rw [hR.s j hj]
    dsimp only
    have : j = 0 ∨ j = 1 ∨ j = 2 ∨ j = 3 ∨ j = 4 ∨ j = 5 := by omega
    rcases this with rfl | rfl | rfl | rfl | rfl | rfl
    · rw [zU_nj (by decide), zU_nj (by decide), zU_nj (by decide), zU_nj (by decide), zU_nj (by decide)]; exact zU_eq
    · rw [zU_nj (by decide), zU_nj (by decide), zU_nj (by decide), zU_nj (by decide)]; exact zU_eq
    · rw [zU_nj (by decide), zU_nj (by decide), zU_nj (by decide)]; exact zU_eq
    · rw [zU_nj (by decide), zU_nj (by decide)]; exact zU_eq
    · rw [zU_nj (by decide)]; exact zU_eq
    · exact zU_eq
