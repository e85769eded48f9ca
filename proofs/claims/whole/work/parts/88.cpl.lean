/-! A NEW GROUP'S SHARDS IN THE CLASS'S RING -/
theorem von_succ {v : zV} {g k n : Nat} : von v g (k + 1) n = if hol v g k = n then von v g k n + 1 else von v g k n := rfl
theorem von_vcnt {v : zV} {g n : Nat} (h : v 8 = g) : von v g (vsh v g) n = vcnt v (g + 1) n := by
  subst h
  rfl
theorem von_ag {v v' : zV} {g few n : Nat} (h8 : v' 8 = v 8) (hc : vcnt v' (v 8) n = vcnt v (v 8) n) (hh : ∀ s, s < few → hol v' g s = hol v g s) : von v' g few n = von v g few n := by
  unfold von
  rw [h8, hc]
  exact zFor_congr (fun s a hs => by rw [hh s hs])
theorem vcnt_ag {v v' : zV} {k n : Nat} (h : ∀ j, 268 ≤ j → j < 268 + 23 * k → v' j = v j) (hs : ∀ g, g < k → vsh v g ≤ 10) : vcnt v' k n = vcnt v k n := by
  unfold vcnt
  refine zFor_congr (fun g a hg => ?_)
  have e2 := (vcost_vg (v := v) (v' := v') (g := g) (fun c hc => h _ (by omega) (by omega))).2
  rw [e2]
  refine zFor_congr (fun s b hb => ?_)
  have := hs g hg
  rw [show hol v' g s = hol v g s from h _ (by omega) (by omega)]
/-- the ring while the shards of group g are placed: k of them lie -/
def zRq (M : zM) (u : zV) (g k : Nat) : Prop := zNo M 9 u (fun n => von u g k n) ∧ zTe M 9 u ∧ zGr M 9 u (g + 1) (fun i => if i = g then k else vsh u i) ∧ zPa M 9 u ∧ zSk M 9 u
theorem zRi9 : zRi 9 := ⟨by decide, by decide⟩
theorem zRq.rg {M : zM} {u : zV} {g : Nat} (h : zRq M u g (vsh u g)) (h8 : u 8 = g) (hg : g < 10) (hsh : ∀ i, i < g + 1 → vsh u i ≤ 10) : zRg M 9 (vset u 8 (g + 1)) := by
  obtain ⟨hN, hT, hG, hP, hS⟩ := h
  have e : ∀ j, j ≠ 8 → vset u 8 (g + 1) j = u j := fun j hj => vset_off hj
  have e8 : vset u 8 (g + 1) 8 = g + 1 := vset_at
  have es : ∀ i, vsh (vset u 8 (g + 1)) i = vsh u i := fun i => (vcost_vg (fun c hc => e _ (by omega))).2
  refine ⟨zRi9, ?_, hT.vg (e 7 (by decide)) (fun i h1 h2 => e i (by omega)), ?_, hP.vg (e 9 (by decide)) (fun i h1 h2 => e i (by omega)), hS.vg (fun j hj => e j (by omega))⟩
  · refine hN.vg (fun i h1 h2 h3 h4 h5 => e i (by omega)) (fun n hn => ?_)
    rw [e8, von_vcnt h8]
    exact vcnt_vg (by omega) hsh (fun i h1 h2 => e i (by omega))
  · rw [e8]
    refine hG.vg (fun i h1 h2 => e i (by omega)) (fun i hi => ⟨?_, ?_⟩)
    · rw [es]
      by_cases q : i = g
      · subst q; rw [if_pos rfl]
      · rw [if_neg q]
    · have := hsh i hi
      by_cases q : i = g
      · subst q; rw [if_pos rfl]; exact this
      · rw [if_neg q]; exact this
theorem zRq.put {M M' : zM} {u : zV} {g k m : Nat} (h : zRq M u g k) (hW : zWF u) (h8 : u 8 = g) (hg : g < 10) (hk : k < vsh u g) (hsh : vsh u g ≤ 10) (hm : m < u 6)
    (hF : ∀ a, a ≠ 11 → a ≠ 15 → M'.1 a = M.1 a) (h11 : ∀ j, j ≠ m * 8 + 4 → M'.1 11 j = M.1 11 j) (h11m : M'.1 11 (m * 8 + 4) = nI (von u g k m + 1)) (h15 : ∀ j, j ≠ g * 21 + (10 + k) → M'.1 15 j = M.1 15 j) (h15m : M'.1 15 (g * 21 + (10 + k)) = nI m) : zRq M' (vset u (268 + 23 * g + 7 + k) m) g (k + 1) := by
  obtain ⟨hN, hT, hG, hP, hS⟩ := h
  have h6 := hW.nN
  have e : ∀ j, j ≠ 268 + 23 * g + 7 + k → vset u (268 + 23 * g + 7 + k) m j = u j := fun j hj => vset_off hj
  have em : hol (vset u (268 + 23 * g + 7 + k) m) g k = m := by
    show vset u (268 + 23 * g + 7 + k) m (268 + 23 * g + (7 + k)) = m
    rw [← Nat.add_assoc, vset_at]
  have e8 := e 8 (by omega)
  have ev : ∀ n, von (vset u (268 + 23 * g + 7 + k) m) g k n = von u g k n := fun n => von_ag e8 (vcnt_ag (fun j h1 h2 => e j (by omega)) (fun i hi => (hW.sh hi).2)) (fun s hs => e _ (by omega))
  refine ⟨⟨by rw [e 6 (by omega)]; exact hN.1.cg (hF 10 (by decide) (by decide)), fun n hn => ?_⟩, (hT.cg (hF 12 (by decide) (by decide)) (hF 13 (by decide) (by decide))).vg (e 7 (by omega)) (fun i h1 h2 => e i (by omega)), ⟨hG.1.cg (hF 14 (by decide) (by decide)), fun i hi => ?_⟩, (hP.cg (hF 16 (by decide) (by decide)) (hF 17 (by decide) (by decide))).vg (e 9 (by omega)) (fun i h1 h2 => e i (by omega)), (hS.cg (hF 9 (by decide) (by decide))).vg (fun j hj => e j (by omega))⟩
  · rw [e 6 (by omega)] at hn
    obtain ⟨f0, f1, f2, f3, f4, f5, f6, f7⟩ := hN.2 n hn
    have en : vname (vset u (268 + 23 * g + 7 + k) m) (10 + 12 * n + 6) = vname u (10 + 12 * n + 6) := vname_eq (fun i hi => e _ (by omega))
    show M'.1 11 (n * 8 + 0) = _ ∧ M'.1 11 (n * 8 + 1) = _ ∧ M'.1 11 (n * 8 + 2) = _ ∧ M'.1 11 (n * 8 + 3) = _ ∧ M'.1 11 (n * 8 + 4) = _ ∧ M'.1 11 (n * 8 + 5) = _ ∧ M'.1 11 (n * 8 + 6) = _ ∧ M'.1 11 (n * 8 + 7) = _
    rw [en, h11 _ (show n * 8 + 0 ≠ m * 8 + 4 by omega), h11 _ (show n * 8 + 1 ≠ m * 8 + 4 by omega), h11 _ (show n * 8 + 2 ≠ m * 8 + 4 by omega), h11 _ (show n * 8 + 3 ≠ m * 8 + 4 by omega), h11 _ (show n * 8 + 5 ≠ m * 8 + 4 by omega), h11 _ (show n * 8 + 6 ≠ m * 8 + 4 by omega), h11 _ (show n * 8 + 7 ≠ m * 8 + 4 by omega), e (10 + 12 * n + 0) (by omega), e (10 + 12 * n + 1) (by omega), e (10 + 12 * n + 2) (by omega), e (10 + 12 * n + 3) (by omega), e (10 + 12 * n + 4) (by omega), e (10 + 12 * n + 5) (by omega)]
    refine ⟨f0, f1, f2, f3, ?_, f5, f6, f7⟩
    show M'.1 11 (n * 8 + 4) = nI (von (vset u (268 + 23 * g + 7 + k) m) g (k + 1) n)
    rw [von_succ, em, ev]
    by_cases q : m = n
    · subst q
      rw [if_pos rfl]
      exact h11m
    · rw [if_neg q, h11 _ (by omega)]
      exact f4
  · obtain ⟨f0, f7, f9, fs, fu, f20⟩ := hG.2 i hi
    obtain ⟨ec, esh⟩ := vcost_vg (v := u) (v' := vset u (268 + 23 * g + 7 + k) m) (g := i) (fun c hc => e _ (by omega))
    have en : vname (vset u (268 + 23 * g + 7 + k) m) (268 + 23 * i + 17) = vname u (268 + 23 * i + 17) := vname_eq (fun j hj => e _ (by omega))
    refine ⟨fun j hj => ?_, ?_, ?_, fun s hs => ?_, fun s hs hs2 => ?_, ?_⟩
    · show M'.1 15 (i * 21 + j) = _
      rw [h15 _ (by omega), e _ (by omega)]
      exact f0 j hj
    · show M'.1 15 (i * 21 + 7) = _
      rw [h15 _ (by omega), ec]
      exact f7
    · show M'.1 15 (i * 21 + 9) = _
      rw [h15 _ (by omega), esh]
      exact f9
    · show M'.1 15 (i * 21 + (10 + s)) = _
      dsimp only at hs
      by_cases q : i = g
      · subst q
        rw [if_pos rfl] at hs
        by_cases q2 : s = k
        · subst q2
          rw [h15m]
          exact congrArg nI em.symm
        · rw [h15 _ (by omega), e _ (by omega)]
          exact fs s (by dsimp only; rw [if_pos rfl]; omega)
      · rw [if_neg q, esh] at hs
        have hi8 : i < u 8 := by omega
        have := (hW.sh hi8).2
        rw [h15 _ (by omega), e _ (by omega)]
        exact fs s (by dsimp only; rw [if_neg q]; exact hs)
    · show M'.1 15 (i * 21 + (10 + s)) = _
      dsimp only at hs
      rw [esh] at hs2
      by_cases q : i = g
      · subst q
        rw [if_pos rfl] at hs
        rw [h15 _ (by omega)]
        exact fu s (by dsimp only; rw [if_pos rfl]; omega) hs2
      · rw [if_neg q, esh] at hs
        omega
    · show M'.1 15 (i * 21 + 20) = _
      rw [h15 _ (by omega), en]
      exact f20
/-- the ring with the new group's row made, before its shards -/
def zRq0 (M : zM) (u : zV) (g : Nat) : Prop := zNo M 9 u (fun n => vcnt u g n) ∧ zTe M 9 u ∧ zTN M 14 21 10 (g + 1) ∧ (∀ i, i < g → (∀ j, j < 7 → M.1 15 (i * 21 + j) = nI (u (268 + 23 * i + j))) ∧ M.1 15 (i * 21 + 7) = nI (vcost u i) ∧ M.1 15 (i * 21 + 9) = nI (vsh u i) ∧ (∀ s, s < vsh u i → M.1 15 (i * 21 + (10 + s)) = nI (u (268 + 23 * i + (7 + s)))) ∧ M.1 15 (i * 21 + 20) = nI (vname u (268 + 23 * i + 17))) ∧
  ((∀ j, j < 7 → M.1 15 (g * 21 + j) = nI (u (268 + 23 * g + j))) ∧ M.1 15 (g * 21 + 7) = nI (vcost u g) ∧ M.1 15 (g * 21 + 9) = nI (vsh u g) ∧ M.1 15 (g * 21 + 20) = nI (vname u (268 + 23 * g + 17))) ∧ zPa M 9 u ∧ zSk M 9 u
theorem zRq0.q {M M1 : zM} {u : zV} {g : Nat} (h : zRq0 M u g) (h8 : u 8 = g) (hsh : vsh u g ≤ 10) (hW : zWF u) (hF : ∀ a, a ≠ 15 → M1.1 a = M.1 a) (ho : ∀ j, ¬ (g * 21 + 10 ≤ j ∧ j < g * 21 + 10 + vsh u g) → M1.1 15 j = M.1 15 j) (hn : ∀ s, s < vsh u g → M1.1 15 (g * 21 + (10 + s)) = -1) : zRq M1 u g 0 := by
  obtain ⟨hN, hT, hTN, hold, ⟨f0, f7, f9, f20⟩, hP, hS⟩ := h
  refine ⟨(hN.cg (hF 10 (by decide)) (hF 11 (by decide))).vg (fun _ _ _ _ _ _ => rfl) (fun n hn => ?_), hT.cg (hF 12 (by decide)) (hF 13 (by decide)), ⟨hTN.cg (hF 14 (by decide)), fun i hi => ?_⟩, hP.cg (hF 16 (by decide)) (hF 17 (by decide)), hS.cg (hF 9 (by decide))⟩
  · show vcnt u (u 8) n = vcnt u g n
    rw [h8]
  · by_cases q : i = g
    · subst q
      refine ⟨fun j hj => ?_, ?_, ?_, fun s hs => ?_, fun s hs hs2 => ?_, ?_⟩
      · show M1.1 15 (i * 21 + j) = _
        rw [ho _ (by omega)]; exact f0 j hj
      · show M1.1 15 (i * 21 + 7) = _
        rw [ho _ (by omega)]; exact f7
      · show M1.1 15 (i * 21 + 9) = _
        rw [ho _ (by omega)]; exact f9
      · dsimp only at hs
        rw [if_pos rfl] at hs
        omega
      · exact hn s hs2
      · show M1.1 15 (i * 21 + 20) = _
        rw [ho _ (by omega)]; exact f20
    · have hig : i < g := by omega
      have h10 := (hW.sh (show i < u 8 by omega)).2
      obtain ⟨g0, g7, g9, gs, g20⟩ := hold i hig
      refine ⟨fun j hj => ?_, ?_, ?_, fun s hs => ?_, fun s hs hs2 => ?_, ?_⟩
      · show M1.1 15 (i * 21 + j) = _
        rw [ho _ (by omega)]; exact g0 j hj
      · show M1.1 15 (i * 21 + 7) = _
        rw [ho _ (by omega)]; exact g7
      · show M1.1 15 (i * 21 + 9) = _
        rw [ho _ (by omega)]; exact g9
      · dsimp only at hs
        rw [if_neg q] at hs
        show M1.1 15 (i * 21 + (10 + s)) = _
        rw [ho _ (by omega)]; exact gs s hs
      · dsimp only at hs
        rw [if_neg q] at hs
        omega
      · show M1.1 15 (i * 21 + 20) = _
        rw [ho _ (by omega)]; exact g20
theorem jX6_putP {u : zV} {g k m : Nat} {Q : Option Value → zM → Prop} {X : String → zM → Prop} {M : zM} (h0 : zRq M u g k) (hW : zWF u) (h8 : u 8 = g) (hg : g < 10) (hk : k < vsh u g) (hsh : vsh u g ≤ 10) (hm : m < u 6) (h : ∀ M', (∀ a, a ≠ 11 → a ≠ 15 → M'.1 a = M.1 a) → M'.2 = M.2 → zRq M' (vset u (268 + 23 * g + 7 + k) m) g (k + 1) → Q none M') : zJ yX6_put cX6_put 5 none rX6_put Q X rX6_put.cells rX6_put.slots 0 (zEnt 5 [.ref 9, .int (nI g), .int (nI k), .int (nI m)]) [] M := by
  have h6 := hW.nN
  obtain ⟨hN, hTe, hG, hPa, hSk⟩ := id h0
  have hv := von_lt hW (g := g) (n := m) (show k ≤ 10 by omega)
  show zJ yX6_put cX6_put 5 none rX6_put Q X 0 0 0 [some (.ref 9), some (.int (nI g)), some (.int (nI k)), some (.int (nI m)), none] [] M
  refine zj_aload0 (n := 1) rfl dX6_put_0 ?_
  refine zj_getr (n := 4) (q := 14) rfl dX6_put_1 zf_X6_23 rfl (by decide) (by decide) rfl ?_
  refine zj_iload1 (n := 5) rfl dX6_put_4 ?_
  refine zj_bipushN (v := 10) (n := 7) rfl dX6_put_5 (by decide) ?_
  refine zj_iload2 (n := 8) rfl dX6_put_7 ?_
  refine zj_iaddN (n := 9) rfl dX6_put_8 ?_
  refine zj_callV2 (n := 12) (a' := 0) (b' := 0) rfl dX6_put_9 zm_X6_58 (by decide) (by decide) rfl (Nat.le_of_ble_eq_true rfl) (Nat.le_of_ble_eq_true rfl) (Nat.le_of_ble_eq_true rfl) (Nat.le_of_ble_eq_true rfl) (jT_get (e := 4294967295) hG.1 (show g < g + 1 by omega) (by omega) (show M.1 15 (g * 21 + (10 + k)) = nI 4294967295 from hG.un (show g < g + 1 by omega) (by rw [if_pos rfl]; exact Nat.le_refl k) hk) ?_)
  refine zj_istore4 (n := 14) rfl dX6_put_12 rfl (Nat.le_of_ble_eq_true rfl) ?_
  refine zj_aload0 (n := 15) rfl dX6_put_14 ?_
  refine zj_getr (n := 18) (q := 10) rfl dX6_put_15 zf_X6_14 rfl (by decide) (by decide) rfl ?_
  refine zj_iload4 (n := 20) rfl dX6_put_18 ?_
  refine zj_iconstN_4 (n := 21) rfl dX6_put_20 ?_
  refine zj_iconst_m1 (n := 22) rfl dX6_put_21 ?_
  refine zj_callV3 (n := 25) (a' := 0) (b' := 0) rfl dX6_put_22 zm_X6_106 (by decide) (by decide) rfl (Nat.le_of_ble_eq_true rfl) (Nat.le_of_ble_eq_true rfl) (Nat.le_of_ble_eq_true rfl) (Nat.le_of_ble_eq_true rfl) (jT_incM hN.1.1 ?_)
  refine zj_aload0 (n := 26) rfl dX6_put_25 ?_
  refine zj_getr (n := 29) (q := 10) rfl dX6_put_26 zf_X6_14 rfl (by decide) (by decide) rfl ?_
  refine zj_iload3 (n := 30) rfl dX6_put_29 ?_
  refine zj_iconstN_4 (n := 31) rfl dX6_put_30 ?_
  refine zj_iconstN_1 (n := 32) rfl dX6_put_31 ?_
  refine zj_callV3 (n := 35) (a' := 0) (b' := 0) rfl dX6_put_32 zm_X6_106 (by decide) (by decide) rfl (Nat.le_of_ble_eq_true rfl) (Nat.le_of_ble_eq_true rfl) (Nat.le_of_ble_eq_true rfl) (Nat.le_of_ble_eq_true rfl) (jT_inc (x := nI 1) (e := von u g k m) hN.1 hm (by decide) (hN.c4 hm) ?_)
  refine zj_aload0 (n := 36) rfl dX6_put_35 ?_
  refine zj_getr (n := 39) (q := 14) rfl dX6_put_36 zf_X6_23 rfl (by decide) (by decide) rfl ?_
  refine zj_iload1 (n := 40) rfl dX6_put_39 ?_
  refine zj_bipushN (v := 10) (n := 42) rfl dX6_put_40 (by decide) ?_
  refine zj_iload2 (n := 43) rfl dX6_put_42 ?_
  refine zj_iaddN (n := 44) rfl dX6_put_43 ?_
  refine zj_iload3 (n := 45) rfl dX6_put_44 ?_
  refine zj_callV3 (n := 48) (a' := 0) (b' := 0) rfl dX6_put_45 zm_X6_67 (by decide) (by decide) rfl (Nat.le_of_ble_eq_true rfl) (Nat.le_of_ble_eq_true rfl) (Nat.le_of_ble_eq_true rfl) (Nat.le_of_ble_eq_true rfl) (jT_set (hG.1.cg (by dsimp only; rw [zU_off (by decide)])) (show g < g + 1 by omega) (by omega) ?_)
  refine zj_return dX6_put_48 rfl ?_
  have e11 : nI (von u g k m) + nI 1 = nI (von u g k m + 1) := nI_add _ _
  refine h _ (fun a b1 b2 => by dsimp only; rw [zU_off b2, zU_off b1]) rfl (h0.put hW h8 hg hk hsh hm (fun a b1 b2 => by dsimp only; rw [zU_off b2, zU_off b1]) (fun j hj => ?_) ?_ (fun j hj => ?_) ?_)
  · dsimp only; rw [zU_off (by decide), zU_nj hj]
  · dsimp only; rw [zU_off (by decide), zU_eq, e11]
  · dsimp only; rw [zU_nj hj, zU_off (by decide)]
  · exact zUe
theorem jX6_placeAll {u : zV} {g : Nat} {Q : Option Value → zM → Prop} {X : String → zM → Prop} {M : zM} (h0 : zRq0 M u g) (hq : zPq u g) (h : ∀ M' (b : Bool), (∀ a, a ≠ 11 → a ≠ 15 → M'.1 a = M.1 a) → M'.2 = M.2 → zTN M' 14 21 10 (g + 1) → zTN M' 10 8 16 (u 6) → b = (plS u g (vsh u g)).isSome → (b = true → ∃ u1 p, plS u g (vsh u g) = some (u1, p) ∧ zRq M' u1 g (vsh u g)) → Q (some (.int (zb b))) M') : zJ yX6_placeAll cX6_placeAll 6 (some .boolean) rX6_placeAll Q X rX6_placeAll.cells rX6_placeAll.slots 0 (zEnt 6 [.ref 9, .int (nI g)]) [] M := by
  obtain ⟨hW, h8, hg, hsh, hkey⟩ := id hq
  have h6 := hW.nN
  have h7 := hW.tN
  have hTN := h0.2.2.1
  have hrow := h0.2.2.2.2.1
  show zJ yX6_placeAll cX6_placeAll 6 (some .boolean) rX6_placeAll Q X 0 0 0 [some (.ref 9), some (.int (nI g)), none, none, none, none] [] M
  refine zj_aload0 (n := 1) rfl dX6_placeAll_0 ?_
  refine zj_getr (n := 4) (q := 14) rfl dX6_placeAll_1 zf_X6_23 rfl (by decide) (by decide) rfl ?_
  refine zj_iload1 (n := 5) rfl dX6_placeAll_4 ?_
  refine zj_bipushN (v := 9) (n := 7) rfl dX6_placeAll_5 (by decide) ?_
  refine zj_callV2 (n := 10) (a' := 0) (b' := 0) rfl dX6_placeAll_7 zm_X6_58 (by decide) (by decide) rfl (Nat.le_of_ble_eq_true rfl) (Nat.le_of_ble_eq_true rfl) (Nat.le_of_ble_eq_true rfl) (Nat.le_of_ble_eq_true rfl) (jT_get (e := vsh u g) hTN (show g < g + 1 by omega) (by decide) hrow.2.2.1 ?_)
  refine zj_istore2 (n := 11) rfl dX6_placeAll_10 rfl (Nat.le_of_ble_eq_true rfl) ?_
  refine zj_iconstN_0 (n := 12) rfl dX6_placeAll_11 ?_
  refine zj_istore3 (n := 13) rfl dX6_placeAll_12 rfl (Nat.le_of_ble_eq_true rfl) ?_
  refine zFor_rule (P := fun k (_ : Unit) => ∀ M1, (∀ a, a ≠ 15 → M1.1 a = M.1 a) → M1.2 = M.2 → (∀ j, ¬ (g * 21 + 10 ≤ j ∧ j < g * 21 + 10 + k) → M1.1 15 j = M.1 15 j) → (∀ s, s < k → M1.1 15 (g * 21 + (10 + s)) = -1) → zJ yX6_placeAll cX6_placeAll 6 (some .boolean) rX6_placeAll Q X 0 0 13 [some (.ref 9), some (.int (nI g)), some (.int (nI (vsh u g))), some (.int (nI k)), none, none] [] M1) (n := vsh u g) (f := fun _ s => s) (s0 := ()) ?_ ?_ M (fun _ _ => rfl) rfl (fun _ _ => rfl) (fun s hs => absurd hs (by omega))
  · intro k _ hk9 hk M1 hF1 hs1 ho1 hn1
    refine zj_iload3 (n := 14) rfl dX6_placeAll_13 ?_
    refine zj_iload2 (n := 15) rfl dX6_placeAll_14 ?_
    refine zj_icmpN_ge (n := 18) (tgt := 37) rfl dX6_placeAll_15 (by decide) (by omega) (by omega) (fun c15 => by omega) (fun c15 => ?_)
    refine zj_aload0 (n := 19) rfl dX6_placeAll_18 ?_
    refine zj_getr (n := 22) (q := 14) rfl dX6_placeAll_19 zf_X6_23 rfl (by decide) (by decide) rfl ?_
    refine zj_iload1 (n := 23) rfl dX6_placeAll_22 ?_
    refine zj_bipushN (v := 10) (n := 25) rfl dX6_placeAll_23 (by decide) ?_
    refine zj_iload3 (n := 26) rfl dX6_placeAll_25 ?_
    refine zj_iaddN (n := 27) rfl dX6_placeAll_26 ?_
    refine zj_iconst_m1 (n := 28) rfl dX6_placeAll_27 ?_
    refine zj_callV3 (n := 31) (a' := 0) (b' := 0) rfl dX6_placeAll_28 zm_X6_67 (by decide) (by decide) rfl (Nat.le_of_ble_eq_true rfl) (Nat.le_of_ble_eq_true rfl) (Nat.le_of_ble_eq_true rfl) (Nat.le_of_ble_eq_true rfl) (jT_set (hTN.cg (hF1 14 (by decide))) (show g < g + 1 by omega) (by omega) ?_)
    refine zj_iincN3 (n := 34) rfl dX6_placeAll_31 rfl (Nat.le_of_ble_eq_true rfl) ?_
    refine zj_goto (tgt := 13) dX6_placeAll_34 (by decide) ?_
    exact hk _ (fun a b1 => (zU_off b1).trans (hF1 a b1)) hs1 (fun j hj => by dsimp only; rw [zU_nj (by omega)]; exact ho1 j (by omega)) (fun s hs => by
      dsimp only
      by_cases q : s = k
      · subst q; exact zU_eq
      · rw [zU_nj (by omega)]; exact hn1 s (by omega))
  · intro M1 hF1 hs1 ho1 hn1
    refine zj_iload3 (n := 14) rfl dX6_placeAll_13 ?_
    refine zj_iload2 (n := 15) rfl dX6_placeAll_14 ?_
    refine zj_icmpN_ge (n := 18) (tgt := 37) rfl dX6_placeAll_15 (by decide) (by omega) (by omega) (fun c15 => ?_) (fun c15 => by omega)
    refine zj_aload0 (n := 38) rfl dX6_placeAll_37 ?_
    refine zj_getr (n := 41) (q := 14) rfl dX6_placeAll_38 zf_X6_23 rfl (by decide) (by decide) rfl ?_
    refine zj_iload1 (n := 42) rfl dX6_placeAll_41 ?_
    refine zj_iconstN_1 (n := 43) rfl dX6_placeAll_42 ?_
    refine zj_callV2 (n := 46) (a' := 0) (b' := 0) rfl dX6_placeAll_43 zm_X6_58 (by decide) (by decide) rfl (Nat.le_of_ble_eq_true rfl) (Nat.le_of_ble_eq_true rfl) (Nat.le_of_ble_eq_true rfl) (Nat.le_of_ble_eq_true rfl) (jT_get (e := u (268 + 23 * g + 1)) (hTN.cg (hF1 14 (by decide))) (show g < g + 1 by omega) (by decide) (show M1.1 15 (g * 21 + 1) = nI (u (268 + 23 * g + 1)) from (ho1 _ (by omega)).trans (hrow.1 1 (by decide))) ?_)
    refine zj_istore3 (n := 47) rfl dX6_placeAll_46 rfl (Nat.le_of_ble_eq_true rfl) ?_
    refine zj_iconstN_0 (n := 48) rfl dX6_placeAll_47 ?_
    refine zj_istore4 (n := 50) rfl dX6_placeAll_48 rfl (Nat.le_of_ble_eq_true rfl) ?_
    refine zFind_rule (P := fun k => ∀ M2 u1 p, (∀ a, a ≠ 11 → a ≠ 15 → M2.1 a = M1.1 a) → M2.2 = M1.2 → plS u g k = some (u1, p) → zRq M2 u1 g k → zJ yX6_placeAll cX6_placeAll 6 (some .boolean) rX6_placeAll Q X 0 0 50 [some (.ref 9), some (.int (nI g)), some (.int (nI (vsh u g))), some (.int (nI p)), some (.int (nI k)), none] [] M2) (n := vsh u g) (p := fun k => (plS u g (k + 1)).isNone) ?_ ?_ M1 u (u (268 + 23 * g + 1)) (fun _ _ _ => rfl) rfl rfl (h0.q h8 hsh hW hF1 ho1 hn1)
    · intro k hk hf hkk M2 u1 p hF2 hs2 hpl hq1
      have hi1 := plS_inv hq k u1 p hpl
      have hWu := hi1.wf hq (by omega)
      have h66 := hWu.nN
      have e6 : u1 6 = u 6 := hi1.1 6 (by omega)
      have h81 : u1 8 = g := by rw [hi1.1 8 (by omega)]; exact h8
      have hp4 := hi1.2.2.2
      refine zj_iload4 (n := 52) rfl dX6_placeAll_50 ?_
      refine zj_iload2 (n := 53) rfl dX6_placeAll_52 ?_
      refine zj_icmpN_ge (n := 56) (tgt := 102) rfl dX6_placeAll_53 (by decide) (by omega) (by omega) (fun c53 => by omega) (fun c53 => ?_)
      refine zj_aload0 (n := 57) rfl dX6_placeAll_56 ?_
      refine zj_iload1 (n := 58) rfl dX6_placeAll_57 ?_
      refine zj_iload4 (n := 60) rfl dX6_placeAll_58 ?_
      refine zj_iload3 (n := 61) rfl dX6_placeAll_60 ?_
      refine zj_callV3 (n := 64) (a' := 0) (b' := 0) rfl dX6_placeAll_61 zm_X6_102 (by decide) (by decide) rfl (Nat.le_of_ble_eq_true rfl) (Nat.le_of_ble_eq_true rfl) (Nat.le_of_ble_eq_true rfl) (Nat.le_of_ble_eq_true rfl) (jX6_placeFor (r := 9) (gn := g + 1) (g := g) (many := k) (few := k) (sh := k) (but := -1) zRi9 hq1.1 hq1.2.2.1 (by omega) (by rw [if_pos rfl]) (by rw [hi1.sh]; exact hsh) (by rw [hi1.sh]; omega) hWu.nN (fun s hs => by have := hi1.2.1 s hs; omega) (fun n hn => by have q0 : nd u1 n 0 ≤ 9999 ∧ nd u1 n 1 ≤ 9 ∧ nd u1 n 2 ≤ 999 ∧ nd u1 n 3 ≤ 50 ∧ nd u1 n 4 ≤ 2 := hWu.node hn; omega) (fun n m hn hm e => hWu.apart hn hm e) (fun n hn => ⟨rfl, von_lt hWu (by omega)⟩) (by omega) (fun s hs => by rw [decide_eq_false (show ¬ nI s = -1 from nI_ne_m1 (by omega)), decide_eq_false (by omega)]) hp4 ?_)
      refine zj_istore5 (n := 66) rfl dX6_placeAll_64 rfl (Nat.le_of_ble_eq_true rfl) ?_
      refine zj_iload5 (n := 68) rfl dX6_placeAll_66 ?_
      refine zj_iconst_m1 (n := 69) rfl dX6_placeAll_68 ?_
      refine zj_icmpO_ne (n := 72) (tgt := 74) rfl dX6_placeAll_69 (by decide) (fun m hm => by have := vplace_lt hm; have := hWu.nN; omega) (fun m69 c69 => ?_) (fun c69 => ?_)
      · rw [show zo (vplace u1 g k k (-1) p) = nI m69 from by rw [c69]; rfl]
        have hm6 : m69 < u1 6 := vplace_lt c69
        refine zj_aload0 (n := 75) rfl dX6_placeAll_74 ?_
        refine zj_iload1 (n := 76) rfl dX6_placeAll_75 ?_
        refine zj_iload4 (n := 78) rfl dX6_placeAll_76 ?_
        refine zj_iload5 (n := 80) rfl dX6_placeAll_78 ?_
        refine zj_callV3 (n := 83) (a' := 0) (b' := 0) rfl dX6_placeAll_80 zm_X6_109 (by decide) (by decide) rfl (Nat.le_of_ble_eq_true rfl) (Nat.le_of_ble_eq_true rfl) (Nat.le_of_ble_eq_true rfl) (Nat.le_of_ble_eq_true rfl) (jX6_putP hq1 hWu h81 hg (by rw [hi1.sh]; omega) (by rw [hi1.sh]; exact hsh) hm6 ?_)
        intro M3 hF3 hs3 hq3
        refine zj_aload0 (n := 84) rfl dX6_placeAll_83 ?_
        refine zj_getr (n := 87) (q := 10) rfl dX6_placeAll_84 zf_X6_14 rfl (by decide) (by decide) rfl ?_
        refine zj_iload5 (n := 89) rfl dX6_placeAll_87 ?_
        refine zj_iconstN_0 (n := 90) rfl dX6_placeAll_89 ?_
        refine zj_callV2 (n := 93) (a' := 0) (b' := 0) rfl dX6_placeAll_90 zm_X6_58 (by decide) (by decide) rfl (Nat.le_of_ble_eq_true rfl) (Nat.le_of_ble_eq_true rfl) (Nat.le_of_ble_eq_true rfl) (Nat.le_of_ble_eq_true rfl) (jT_get (e := (vset u1 (268 + 23 * g + 7 + k) m69) (10 + 12 * m69 + 0)) hq3.1.1 (by rw [vset_off (by omega)]; exact hm6) (by decide) (hq3.1.c0 (by rw [vset_off (by omega)]; exact hm6)) ?_)
        rw [vset_off (show 10 + 12 * m69 + 0 ≠ 268 + 23 * g + 7 + k by omega)]
        refine zj_iconstN_1 (n := 94) rfl dX6_placeAll_93 ?_
        refine zj_iaddN (n := 95) rfl dX6_placeAll_94 ?_
        refine zj_istore3 (n := 96) rfl dX6_placeAll_95 rfl (Nat.le_of_ble_eq_true rfl) ?_
        refine zj_iincN4 (n := 99) rfl dX6_placeAll_96 rfl (Nat.le_of_ble_eq_true rfl) ?_
        refine zj_goto (tgt := 50) dX6_placeAll_99 (by decide) ?_
        refine zj_keep [true, true, true, true, true, false] ?_
        have eP := plS_succ hpl (by omega) c69
        exact hkk (by rw [eP]; rfl) _ _ _ (fun a b1 b2 => (hF3 a b1 b2).trans (hF2 a b1 b2)) (hs3.trans hs2) eP hq3
      · refine zj_iconstN_0 (n := 73) rfl dX6_placeAll_72 ?_
        refine zj_ireturn dX6_placeAll_73 rfl rfl ?_
        have hno := plS_none (plS_fail hpl (Or.inr c69)) (vsh u g) (by omega)
        exact h M2 false (fun a b1 b2 => (hF2 a b1 b2).trans (hF1 a b2)) (hs2.trans hs1) hq1.2.2.1.1 (by have := hq1.1.1; rw [e6] at this; exact this) (by rw [hno]; rfl) (fun q => by cases q)
    · intro hf M2 u1 p hF2 hs2 hpl hq1
      have hi1 := plS_inv hq (vsh u g) u1 p hpl
      have e6 : u1 6 = u 6 := hi1.1 6 (by omega)
      refine zj_iload4 (n := 52) rfl dX6_placeAll_50 ?_
      refine zj_iload2 (n := 53) rfl dX6_placeAll_52 ?_
      refine zj_icmpN_ge (n := 56) (tgt := 102) rfl dX6_placeAll_53 (by decide) (by omega) (by omega) (fun c53 => ?_) (fun c53 => by omega)
      refine zj_iconstN_1 (n := 103) rfl dX6_placeAll_102 ?_
      refine zj_ireturn dX6_placeAll_103 rfl rfl ?_
      exact h M2 true (fun a b1 b2 => (hF2 a b1 b2).trans (hF1 a b2)) (hs2.trans hs1) hq1.2.2.1.1 (by have := hq1.1.1; rw [e6] at this; exact this) (by rw [hpl]; rfl) (fun _ => ⟨u1, p, hpl, hq1⟩)
