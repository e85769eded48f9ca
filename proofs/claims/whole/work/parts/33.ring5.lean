/-! THE CLASS'S RINGS: changes -/
theorem vcnt_pos {v : zV} {g s k : Nat} (hs : s < vsh v g) (hg : g < k) : 1 ≤ vcnt v k (hol v g s) := by
  have key : ∀ j, g < j → j ≤ k → 1 ≤ vcnt v j (hol v g s) := by
    intro j
    induction j with
    | zero => intro h; omega
    | succ j ihj =>
      intro h1 h2
      rw [vcnt_succ]
      rcases Nat.lt_or_ge g j with w | w
      · have := ihj w (by omega); omega
      · have : g = j := by omega
        subst this
        have hz : 0 < zCnt (vsh v g) (fun i => hol v g i == hol v g s) := by
          have key2 : ∀ (N : Nat) (P : Nat → Bool) (i : Nat), i < N → P i = true → 0 < zCnt N P := by
            intro N P i
            induction N with
            | zero => intro q; omega
            | succ N ihN =>
              intro hi hp
              rw [zCnt_succ]
              rcases Nat.lt_or_ge i N with u | u
              · have := ihN u hp; split <;> omega
              · have : i = N := by omega
                subst this
                rw [hp, if_pos rfl]; omega
          exact key2 _ _ s hs (beq_self_eq_true _)
        omega
  exact key k hg (Nat.le_refl _)
theorem zRg.put {M : zM} {r g s to : Nat} {v : zV} (h : zRg M r v) (hW : zWF v) (hg : g < v 8) (hs : s < vsh v g) (hto : to < v 6) (hne : hol v g s ≠ to) : zRg (zU (zU (zU M.1 (r + 1 + 1) (hol v g s * 8 + 4) (nI (vcnt v (v 8) (hol v g s)) + (-1))) (r + 1 + 1) (to * 8 + 4) (nI (vcnt v (v 8) to) + nI 1)) (r + 5 + 1) (g * 21 + (10 + s)) (nI to), M.2) r (vset v (268 + 23 * g + 7 + s) to) := by
  have h6 := hW.nN
  have h8 := hW.gN
  have hsh : ∀ g, g < v 8 → vsh v g ≤ 10 := fun g hg => (hW.sh hg).2
  have hs10 := hsh g hg
  have hold := hW.holds hg hs
  have hpos := vcnt_pos hs hg
  have e8 : vset v (268 + 23 * g + 7 + s) to 8 = v 8 := vset_off (by omega)
  have ec : ∀ g', vcost (vset v (268 + 23 * g + 7 + s) to) g' = vcost v g' ∧ vsh (vset v (268 + 23 * g + 7 + s) to) g' = vsh v g' := fun g' => vcost_vg (fun c hc => vset_off (by omega))
  have hvc := fun n => vcnt_put hs (by omega) n hne (fun g' => (ec g').2) (fun g' hg' => by by_cases q : g' < v 8; exact Or.inl (hsh g' q); exact Or.inr (by omega)) (v 8) h8 hsh
  have key : ∀ a, a ≠ r + 2 → a ≠ r + 6 → (zU (zU (zU M.1 (r + 1 + 1) (hol v g s * 8 + 4) (nI (vcnt v (v 8) (hol v g s)) + (-1))) (r + 1 + 1) (to * 8 + 4) (nI (vcnt v (v 8) to) + nI 1)) (r + 5 + 1) (g * 21 + (10 + s)) (nI to)) a = M.1 a := fun a h1 h2 => by rw [zU_off h2, zU_off h1, zU_off h1]
  have ek2 : ∀ j, (zU (zU (zU M.1 (r + 1 + 1) (hol v g s * 8 + 4) (nI (vcnt v (v 8) (hol v g s)) + (-1))) (r + 1 + 1) (to * 8 + 4) (nI (vcnt v (v 8) to) + nI 1)) (r + 5 + 1) (g * 21 + (10 + s)) (nI to)) (r + 2) j = if j = to * 8 + 4 then nI (vcnt v (v 8) to + 1) else if j = hol v g s * 8 + 4 then nI (vcnt v (v 8) (hol v g s) - 1) else M.1 (r + 2) j := by
    intro j
    rw [zU_ne (show r + 2 ≠ r + 5 + 1 by omega)]
    by_cases q : j = to * 8 + 4
    · subst q; rw [if_pos rfl, zU_eq, nI_add]
    · rw [if_neg q, zU_nj q]
      by_cases q2 : j = hol v g s * 8 + 4
      · subst q2; rw [if_pos rfl, zU_eq]
        obtain ⟨c, hc⟩ : ∃ c, vcnt v (v 8) (hol v g s) = c + 1 := ⟨vcnt v (v 8) (hol v g s) - 1, by omega⟩
        rw [hc, pk_m1]; rfl
      · rw [if_neg q2, zU_nj q2]
  have ek6 : ∀ j, (zU (zU (zU M.1 (r + 1 + 1) (hol v g s * 8 + 4) (nI (vcnt v (v 8) (hol v g s)) + (-1))) (r + 1 + 1) (to * 8 + 4) (nI (vcnt v (v 8) to) + nI 1)) (r + 5 + 1) (g * 21 + (10 + s)) (nI to)) (r + 6) j = if j = g * 21 + (10 + s) then nI to else M.1 (r + 6) j := by
    intro j
    by_cases q : j = g * 21 + (10 + s)
    · subst q; rw [if_pos rfl]; exact zU_eq
    · rw [if_neg q, zU_nj q, zU_ne (show r + 6 ≠ r + 1 + 1 by omega), zU_ne (show r + 6 ≠ r + 1 + 1 by omega)]
  generalize zU (zU (zU M.1 (r + 1 + 1) (hol v g s * 8 + 4) (nI (vcnt v (v 8) (hol v g s)) + (-1))) (r + 1 + 1) (to * 8 + 4) (nI (vcnt v (v 8) to) + nI 1)) (r + 5 + 1) (g * 21 + (10 + s)) (nI to) = F at key ek2 ek6
  refine ⟨h.i, ⟨by rw [vset_off (by omega)]; exact h.n.1.cg (key _ (by omega) (by omega)), fun m hm => ?_⟩, (h.t.cg (key _ (by omega) (by omega)) (key _ (by omega) (by omega))).vg (vset_off (by omega)) (fun i h1 h2 => vset_off (by omega)), ?_, (h.p.cg (key _ (by omega) (by omega)) (key _ (by omega) (by omega))).vg (vset_off (by omega)) (fun i h1 _ => vset_off (by omega)), (h.s.cg (key _ (by omega) (by omega))).vg (fun j hj => vset_off (by omega))⟩
  · rw [vset_off (by omega)] at hm
    have en : vname (vset v (268 + 23 * g + 7 + s) to) (10 + 12 * m + 6) = vname v (10 + 12 * m + 6) := vname_eq (fun i hi => vset_off (by omega))
    rw [e8, hvc m, en, vset_off (show 10 + 12 * m + 0 ≠ _ by omega), vset_off (show 10 + 12 * m + 1 ≠ _ by omega), vset_off (show 10 + 12 * m + 2 ≠ _ by omega), vset_off (show 10 + 12 * m + 3 ≠ _ by omega), vset_off (show 10 + 12 * m + 4 ≠ _ by omega), vset_off (show 10 + 12 * m + 5 ≠ _ by omega), if_pos hg]
    obtain ⟨f0, f1, f2, f3, f4, f5, f6, f7⟩ := h.n.2 m hm
    show F (r + 2) (m * 8 + 0) = _ ∧ F (r + 2) (m * 8 + 1) = _ ∧ F (r + 2) (m * 8 + 2) = _ ∧ F (r + 2) (m * 8 + 3) = _ ∧ F (r + 2) (m * 8 + 4) = _ ∧ F (r + 2) (m * 8 + 5) = _ ∧ F (r + 2) (m * 8 + 6) = _ ∧ F (r + 2) (m * 8 + 7) = _
    rw [ek2, ek2, ek2, ek2, ek2, ek2, ek2, ek2]
    refine ⟨?_, ?_, ?_, ?_, ?_, ?_, ?_, ?_⟩
    · rw [if_neg (by omega), if_neg (by omega)]; exact f0
    · rw [if_neg (by omega), if_neg (by omega)]; exact f1
    · rw [if_neg (by omega), if_neg (by omega)]; exact f2
    · rw [if_neg (by omega), if_neg (by omega)]; exact f3
    · by_cases q1 : m = hol v g s
      · rw [if_neg (by omega), if_pos (by omega), if_pos q1, q1]
      · rw [if_neg q1]
        by_cases q2 : m = to
        · rw [if_pos (by omega), if_pos q2, q2]
        · rw [if_neg (by omega), if_neg (by omega), if_neg q2]; exact f4
    · rw [if_neg (by omega), if_neg (by omega)]; exact f5
    · rw [if_neg (by omega), if_neg (by omega)]; exact f6
    · rw [if_neg (by omega), if_neg (by omega)]; exact f7
  · rw [e8]
    refine ⟨h.g.1.cg (key _ (by omega) (by omega)), fun g' hg' => ?_⟩
    have hs9 := hsh g' hg'
    rw [(ec g').1, (ec g').2]
    have en : vname (vset v (268 + 23 * g + 7 + s) to) (268 + 23 * g' + 17) = vname v (268 + 23 * g' + 17) := vname_eq (fun i hi => vset_off (by omega))
    rw [en]
    refine ⟨fun j hj => ?_, ?_, ?_, fun s' hs' => ?_, fun s' hs1 hs2 => by omega, ?_⟩
    · show F (r + 6) _ = _
      rw [ek6, if_neg (by omega), vset_off (by omega)]; exact h.g.c hg' hj
    · show F (r + 6) _ = _
      rw [ek6, if_neg (by omega)]; exact h.g.co hg'
    · show F (r + 6) _ = _
      rw [ek6, if_neg (by omega)]; exact h.g.n hg'
    · show F (r + 6) _ = _
      rw [ek6]
      by_cases q : g' = g ∧ s' = s
      · obtain ⟨rfl, rfl⟩ := q
        rw [if_pos rfl, show 268 + 23 * g' + (7 + s') = 268 + 23 * g' + 7 + s' by omega, vset_at]
      · rw [if_neg (by omega), vset_off (by omega)]; exact h.g.sh hg' hs'
    · show F (r + 6) _ = _
      rw [ek6, if_neg (by omega)]; exact h.g.nm hg'
theorem jX6_put {r : Nat} {v : zV} {g s to : Nat} {Q : Option Value → zM → Prop} {X : String → zM → Prop} {M : zM} (hR : zRg M r v) (hW : zWF v) (hg : g < v 8) (hs : s < vsh v g) (hto : to < v 6) (hne : hol v g s ≠ to) (h : ∀ M', (∀ a, a ≠ r + 2 → a ≠ r + 6 → M'.1 a = M.1 a) → M'.2 = M.2 → zRg M' r (vset v (268 + 23 * g + 7 + s) to) → Q none M') : zJ yX6_put cX6_put 5 none rX6_put Q X rX6_put.cells rX6_put.slots 0 (zEnt 5 [.ref r, .int (nI g), .int (nI s), .int (nI to)]) [] M := by
  have hgh := hW.gh hg
  have h6 := hW.nN
  have h8 := hW.gN
  have hsh := (hW.sh hg).2
  have hgr := hW.grp hg
  have hold := hW.holds hg hs
  show zJ yX6_put cX6_put 5 none rX6_put Q X 0 0 0 [some (.ref r), some (.int (nI g)), some (.int (nI s)), some (.int (nI to)), none] [] M
  refine zj_aload0 (n := 1) rfl dX6_put_0 ?_
  refine zj_getr (n := 4) (q := r + 5) rfl dX6_put_1 zf_X6_23 rfl hR.i.lt hR.i.ty rfl ?_
  refine zj_iload1 (n := 5) rfl dX6_put_4 ?_
  refine zj_bipushN (v := 10) (n := 7) rfl dX6_put_5 (by decide) ?_
  refine zj_iload2 (n := 8) rfl dX6_put_7 ?_
  refine zj_iaddN (n := 9) rfl dX6_put_8 ?_
  refine zj_callV2 (n := 12) (a' := 0) (b' := 0) rfl dX6_put_9 zm_X6_58 (by decide) (hR.i.ltc (c := 5) (by decide)) (by rw [(hR.i.ty1 (c := 5) (by decide))]; rfl) (Nat.le_of_ble_eq_true rfl) (Nat.le_of_ble_eq_true rfl) (Nat.le_of_ble_eq_true rfl) (Nat.le_of_ble_eq_true rfl) (jT_get (e := hol v g s) hR.g.1 (by omega) (by omega) (hR.g.sh (by omega) (by omega)) ?_)
  refine zj_istore4 (n := 14) rfl dX6_put_12 rfl (Nat.le_of_ble_eq_true rfl) ?_
  refine zj_aload0 (n := 15) rfl dX6_put_14 ?_
  refine zj_getr (n := 18) (q := r + 1) rfl dX6_put_15 zf_X6_14 rfl hR.i.lt hR.i.ty rfl ?_
  refine zj_iload4 (n := 20) rfl dX6_put_18 ?_
  refine zj_iconstN_4 (n := 21) rfl dX6_put_20 ?_
  refine zj_iconst_m1 (n := 22) rfl dX6_put_21 ?_
  refine zj_callV3 (n := 25) (a' := 0) (b' := 0) rfl dX6_put_22 zm_X6_106 (by decide) (hR.i.ltc (c := 1) (by decide)) (by rw [(hR.i.ty1 (c := 1) (by decide))]; rfl) (Nat.le_of_ble_eq_true rfl) (Nat.le_of_ble_eq_true rfl) (Nat.le_of_ble_eq_true rfl) (Nat.le_of_ble_eq_true rfl) (jT_inc hR.n.1 hold (by decide) (hR.n.c4 hold) ?_)
  refine zj_aload0 (n := 26) rfl dX6_put_25 ?_
  refine zj_getr (n := 29) (q := r + 1) rfl dX6_put_26 zf_X6_14 rfl hR.i.lt hR.i.ty rfl ?_
  refine zj_iload3 (n := 30) rfl dX6_put_29 ?_
  refine zj_iconstN_4 (n := 31) rfl dX6_put_30 ?_
  refine zj_iconstN_1 (n := 32) rfl dX6_put_31 ?_
  refine zj_callV3 (n := 35) (a' := 0) (b' := 0) rfl dX6_put_32 zm_X6_106 (by decide) (hR.i.ltc (c := 1) (by decide)) (by rw [(hR.i.ty1 (c := 1) (by decide))]; rfl) (Nat.le_of_ble_eq_true rfl) (Nat.le_of_ble_eq_true rfl) (Nat.le_of_ble_eq_true rfl) (Nat.le_of_ble_eq_true rfl) (jT_inc (hR.n.1.cg (M' := (zU M.1 (r + 1 + 1) (hol v g s * 8 + 4) (nI (vcnt v (v 8) (hol v g s)) + (-1)), M.2)) (zU_off (by omega))) hto (by decide) ((zU_nj (by omega)).trans (hR.n.c4 hto)) ?_)
  refine zj_aload0 (n := 36) rfl dX6_put_35 ?_
  refine zj_getr (n := 39) (q := r + 5) rfl dX6_put_36 zf_X6_23 rfl hR.i.lt hR.i.ty rfl ?_
  refine zj_iload1 (n := 40) rfl dX6_put_39 ?_
  refine zj_bipushN (v := 10) (n := 42) rfl dX6_put_40 (by decide) ?_
  refine zj_iload2 (n := 43) rfl dX6_put_42 ?_
  refine zj_iaddN (n := 44) rfl dX6_put_43 ?_
  refine zj_iload3 (n := 45) rfl dX6_put_44 ?_
  refine zj_callV3 (n := 48) (a' := 0) (b' := 0) rfl dX6_put_45 zm_X6_67 (by decide) (hR.i.ltc (c := 5) (by decide)) (by rw [(hR.i.ty1 (c := 5) (by decide))]; rfl) (Nat.le_of_ble_eq_true rfl) (Nat.le_of_ble_eq_true rfl) (Nat.le_of_ble_eq_true rfl) (Nat.le_of_ble_eq_true rfl) (jT_set (hR.g.1.cg (zU_off (by omega) |>.trans (zU_off (by omega)))) hg (by omega) ?_)
  exact zj_return dX6_put_48 rfl (h _ (fun a h1 h2 => by dsimp only; rw [zU_off h2, zU_off h1, zU_off h1]) rfl (hR.put hW hg hs hto hne))
