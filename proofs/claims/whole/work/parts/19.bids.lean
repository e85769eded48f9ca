/-! THE BIDS, in their order: how many, and the group at each place -/
abbrev zB : Type := Nat × (Nat → Nat)
def vpos (off : Nat → Nat) (s : zB) (o : Nat) : Nat := zFst s.1 (fun k => decide (off (s.2 k) < o))
def vins (off : Nat → Nat) (s : zB) (g : Nat) : zB := (s.1 + 1, fun j => if j < vpos off s (off g) then s.2 j else if j = vpos off s (off g) then g else s.2 (j - 1))
def vordk (v : zV) (d k : Nat) : zB := zFor k (fun g s => if vbid v d g then vins (voffer v d) s g else s) (0, fun _ => 0)
def vord (v : zV) (d : Nat) : zB := vordk v d (v 8)
theorem vordk_succ (v : zV) (d k : Nat) : vordk v d (k + 1) = if vbid v d k then vins (voffer v d) (vordk v d k) k else vordk v d k := rfl
/-- what is known of the bids of the first k groups -/
def zBok (v : zV) (d k : Nat) (s : zB) : Prop := s.1 ≤ k ∧ (∀ j, j < s.1 → s.2 j < k ∧ vbid v d (s.2 j) = true) ∧ (∀ i j, i < j → j < s.1 → voffer v d (s.2 j) ≤ voffer v d (s.2 i)) ∧ (∀ i j, i < s.1 → j < s.1 → s.2 i = s.2 j → i = j) ∧ (∀ i j, i < j → j < s.1 → voffer v d (s.2 j) = voffer v d (s.2 i) → s.2 i < s.2 j) ∧ ∀ g, g < k → vbid v d g = true → ∃ j, j < s.1 ∧ s.2 j = g
theorem vpos_le {off : Nat → Nat} {s : zB} {o : Nat} : vpos off s o ≤ s.1 := zFst_le _ _
theorem vins_lo {off : Nat → Nat} {s : zB} {g j : Nat} (h : j < vpos off s (off g)) : (vins off s g).2 j = s.2 j := by
  show (if j < vpos off s (off g) then _ else _) = _
  rw [if_pos h]
theorem vins_at {off : Nat → Nat} {s : zB} {g : Nat} : (vins off s g).2 (vpos off s (off g)) = g := by
  show (if vpos off s (off g) < vpos off s (off g) then _ else if vpos off s (off g) = vpos off s (off g) then _ else _) = _
  rw [if_neg (by omega), if_pos rfl]
theorem vins_hi {off : Nat → Nat} {s : zB} {g j : Nat} (h : vpos off s (off g) < j) : (vins off s g).2 j = s.2 (j - 1) := by
  show (if j < vpos off s (off g) then _ else if j = vpos off s (off g) then _ else _) = _
  rw [if_neg (by omega), if_neg (by omega)]
theorem vpos_lo {off : Nat → Nat} {s : zB} {o i : Nat} (h : i < vpos off s o) : o ≤ off (s.2 i) := by
  have := zFst_min (p := fun k => decide (off (s.2 k) < o)) (n := s.1) h (Nat.lt_of_lt_of_le h vpos_le)
  simpa using this
theorem vpos_hi {off : Nat → Nat} {s : zB} {o i : Nat} (hs : ∀ i j, i < j → j < s.1 → off (s.2 j) ≤ off (s.2 i)) (h : vpos off s o ≤ i) (hi : i < s.1) : off (s.2 i) < o := by
  have h1 : vpos off s o < s.1 := by omega
  have h2 := zFst_lt (p := fun k => decide (off (s.2 k) < o)) (n := s.1) h1
  have h3 : off (s.2 (vpos off s o)) < o := of_decide_eq_true h2
  rcases Nat.lt_or_ge (vpos off s o) i with q | q
  · exact Nat.lt_of_le_of_lt (hs _ _ q hi) h3
  · have : i = vpos off s o := by omega
    rw [this]; exact h3
theorem vordk_ok (v : zV) (d : Nat) : ∀ k, zBok v d k (vordk v d k) := by
  intro k
  induction k with
  | zero => exact ⟨Nat.le_refl 0, fun j h => absurd h (Nat.not_lt_zero j), fun i j _ h => absurd h (Nat.not_lt_zero j), fun i j h => absurd h (Nat.not_lt_zero i), fun i j _ h => absurd h (Nat.not_lt_zero j), fun g h => absurd h (Nat.not_lt_zero g)⟩
  | succ k ih =>
    rw [vordk_succ]
    generalize vordk v d k = s at ih ⊢
    obtain ⟨h1, h2, h3, h4, h5, h6⟩ := ih
    cases hb : vbid v d k with
    | false =>
      simp only [Bool.false_eq_true, if_false]
      refine ⟨by omega, fun j hj => ⟨by have := (h2 j hj).1; omega, (h2 j hj).2⟩, h3, h4, h5, fun g hg hgb => ?_⟩
      rcases Nat.lt_or_ge g k with q | q
      · exact h6 g q hgb
      · have : g = k := by omega
        subst this
        rw [hb] at hgb; cases hgb
    | true =>
      simp only [if_true]
      have hp := vpos_le (off := voffer v d) (s := s) (o := voffer v d k)
      have key : ∀ j, j < s.1 + 1 → (∃ i, i < s.1 ∧ (vins (voffer v d) s k).2 j = s.2 i ∧ ((j < vpos (voffer v d) s (voffer v d k) ∧ i = j) ∨ (vpos (voffer v d) s (voffer v d k) < j ∧ i = j - 1))) ∨ ((vins (voffer v d) s k).2 j = k ∧ j = vpos (voffer v d) s (voffer v d k)) := by
        intro j hj
        rcases Nat.lt_trichotomy j (vpos (voffer v d) s (voffer v d k)) with q | q | q
        · exact Or.inl ⟨j, by omega, vins_lo q, Or.inl ⟨q, rfl⟩⟩
        · exact Or.inr ⟨by rw [q]; exact vins_at, q⟩
        · exact Or.inl ⟨j - 1, by omega, vins_hi q, Or.inr ⟨q, rfl⟩⟩
      refine ⟨show s.1 + 1 ≤ k + 1 by omega, fun j hj => ?_, fun i j hij hj => ?_, fun i j hi hj e => ?_, fun i j hij hj e => ?_, fun g hg hgb => ?_⟩
      · rcases key j hj with ⟨i, hi, e, -⟩ | ⟨e, -⟩
        · rw [e]; exact ⟨by have := (h2 i hi).1; omega, (h2 i hi).2⟩
        · rw [e]; exact ⟨by omega, hb⟩
      · have hi' : i < s.1 + 1 := Nat.lt_trans hij hj
        rcases key i hi' with ⟨a, ha, ea, pa⟩ | ⟨ea, pa⟩ <;> rcases key j hj with ⟨b, hb', eb, pb⟩ | ⟨eb, pb⟩ <;> rw [ea, eb]
        · rcases Nat.lt_or_ge a b with q | q
          · exact h3 a b q hb'
          · have : a = b := by omega
            rw [this]; exact Nat.le_refl _
        · exact vpos_lo (by omega)
        · exact Nat.le_of_lt (vpos_hi h3 (by omega) hb')
        · omega
      · rcases key i hi with ⟨a, ha, ea, pa⟩ | ⟨ea, pa⟩ <;> rcases key j hj with ⟨b, hb', eb, pb⟩ | ⟨eb, pb⟩ <;> rw [ea, eb] at e
        · have := h4 a b ha hb' e
          omega
        · have := (h2 a ha).1; omega
        · have := (h2 b hb').1; omega
        · omega
      · have hi' : i < s.1 + 1 := Nat.lt_trans hij hj
        rcases key i hi' with ⟨a, ha, ea, pa⟩ | ⟨ea, pa⟩ <;> rcases key j hj with ⟨b, hb', eb, pb⟩ | ⟨eb, pb⟩ <;> rw [ea, eb] at e ⊢
        · rcases Nat.lt_or_ge a b with q | q
          · exact h5 a b q hb' e
          · omega
        · exact (h2 a ha).1
        · have := vpos_hi (o := voffer v d k) h3 (i := b) (by omega) hb'
          omega
        · omega
      · rcases Nat.lt_or_ge g k with q | q
        · obtain ⟨j, hj, e⟩ := h6 g q hgb
          rcases Nat.lt_or_ge j (vpos (voffer v d) s (voffer v d k)) with q2 | q2
          · exact ⟨j, show j < s.1 + 1 by omega, by rw [vins_lo q2]; exact e⟩
          · exact ⟨j + 1, show j + 1 < s.1 + 1 by omega, by rw [vins_hi (by omega), Nat.add_sub_cancel]; exact e⟩
        · have : g = k := by omega
          subst this
          exact ⟨vpos (voffer v d) s (voffer v d g), show _ < s.1 + 1 by omega, vins_at⟩
theorem vord_ok (v : zV) (d : Nat) : zBok v d (v 8) (vord v d) := vordk_ok v d (v 8)
/-! the reference's rows of bids -/
def zBv (M : zM) (off : Nat → Nat) (s : zB) : Prop := M.1 118 11 = nI s.1 ∧ ∀ j, j < s.1 → M.1 122 j = nI (s.2 j) ∧ M.1 123 j = nI (off (s.2 j))
/-- while a place is made at k: the row of n + 1 places but for the k-th -/
def zBh (M : zM) (off : Nat → Nat) (s : zB) (k : Nat) : Prop := M.1 118 11 = nI s.1 ∧ ∀ j, j < s.1 + 1 → j ≠ k → M.1 122 j = nI (s.2 (if j < k then j else j - 1)) ∧ M.1 123 j = nI (off (s.2 (if j < k then j else j - 1)))
theorem zBv.start {M : zM} {off : Nat → Nat} {s : zB} (h : zBv M off s) : zBh M off s s.1 := ⟨h.1, fun j hj hne => by
  have hlt : j < s.1 := by omega
  rw [if_pos hlt]; exact h.2 j hlt⟩
/-- one step down: what stood below goes up -/
theorem zBh.step {M : zM} {off : Nat → Nat} {s : zB} {k : Nat} {x y : Int32} (h : zBh M off s k) (hk : 0 < k) (hks : k ≤ s.1) (hx : x = nI (s.2 (k - 1))) (hy : y = nI (off (s.2 (k - 1)))) : zBh (zU (zU M.1 122 k x) 123 k y, M.2) off s (k - 1) := by
  subst hx; subst hy
  refine ⟨?_, fun j hj hne => ?_⟩
  · show zU (zU M.1 122 k (nI (s.2 (k - 1)))) 123 k (nI (off (s.2 (k - 1)))) 118 11 = nI s.1
    rw [zU_off (by decide), zU_off (by decide)]; exact h.1
  · have e122 : (zU (zU M.1 122 k (nI (s.2 (k - 1)))) 123 k (nI (off (s.2 (k - 1))))) 122 j = if j = k then nI (s.2 (k - 1)) else M.1 122 j := by rw [zU_off (by decide), zU_at]
    have e123 : (zU (zU M.1 122 k (nI (s.2 (k - 1)))) 123 k (nI (off (s.2 (k - 1))))) 123 j = if j = k then nI (off (s.2 (k - 1))) else M.1 123 j := by rw [zU_at, zU_off (by decide)]
    show (zU (zU M.1 122 k (nI (s.2 (k - 1)))) 123 k (nI (off (s.2 (k - 1))))) 122 j = _ ∧ (zU (zU M.1 122 k (nI (s.2 (k - 1)))) 123 k (nI (off (s.2 (k - 1))))) 123 j = _
    rw [e122, e123]
    by_cases e : j = k
    · rw [if_pos e, if_pos e, if_neg (by omega), e]; exact ⟨rfl, rfl⟩
    · rw [if_neg e, if_neg e]
      have := h.2 j hj e
      by_cases h2 : j < k - 1
      · rw [if_pos h2]; rw [if_pos (show j < k by omega)] at this; exact this
      · rw [if_neg h2]; rw [if_neg (show ¬ j < k by omega)] at this; exact this
/-- the new one is put in -/
theorem zBh.put {M : zM} {off : Nat → Nat} {s : zB} {g : Nat} (h : zBh M off s (vpos off s (off g))) : zBv (zU (zU (zU M.1 122 (vpos off s (off g)) (nI g)) 123 (vpos off s (off g)) (nI (off g))) 118 11 (nI (s.1 + 1)), M.2) off (vins off s g) := by
  refine ⟨?_, fun j hj => ?_⟩
  · show zU (zU (zU M.1 122 (vpos off s (off g)) (nI g)) 123 (vpos off s (off g)) (nI (off g))) 118 11 (nI (s.1 + 1)) 118 11 = nI (s.1 + 1)
    rw [zU_at]
    exact if_pos rfl
  · have hj' : j < s.1 + 1 := hj
    have e122 : zU (zU (zU M.1 122 (vpos off s (off g)) (nI g)) 123 (vpos off s (off g)) (nI (off g))) 118 11 (nI (s.1 + 1)) 122 j = if j = vpos off s (off g) then nI g else M.1 122 j := by rw [zU_off (by decide), zU_off (by decide), zU_at]
    have e123 : zU (zU (zU M.1 122 (vpos off s (off g)) (nI g)) 123 (vpos off s (off g)) (nI (off g))) 118 11 (nI (s.1 + 1)) 123 j = if j = vpos off s (off g) then nI (off g) else M.1 123 j := by rw [zU_off (by decide), zU_at, zU_off (by decide)]
    show zU (zU (zU M.1 122 (vpos off s (off g)) (nI g)) 123 (vpos off s (off g)) (nI (off g))) 118 11 (nI (s.1 + 1)) 122 j = _ ∧ zU (zU (zU M.1 122 (vpos off s (off g)) (nI g)) 123 (vpos off s (off g)) (nI (off g))) 118 11 (nI (s.1 + 1)) 123 j = _
    rw [e122, e123]
    rcases Nat.lt_trichotomy j (vpos off s (off g)) with q | q | q
    · rw [if_neg (by omega), if_neg (by omega), vins_lo q]
      have := h.2 j hj' (by omega)
      rw [if_pos q] at this
      exact this
    · rw [if_pos q, if_pos q, q, vins_at]; exact ⟨rfl, rfl⟩
    · rw [if_neg (by omega), if_neg (by omega), vins_hi q]
      have := h.2 j hj' (by omega)
      rw [if_neg (by omega)] at this
      exact this
theorem zSr.up {M M1 : zM} {k j : Nat} {x : Int32} (h : zSr M M1) (hk : zSrI k j = true) : zSr M (zU M1.1 k j x, M1.2) := h.tr (zSr.put hk)
theorem zSrI_r {a j : Nat} (h1 : 122 ≤ a) (h2 : a ≤ 126) : zSrI a j = true := by simp [zSrI, h1, h2]
theorem zBv.off {M : zM} {off : Nat → Nat} {s : zB} {k j : Nat} {x : Int32} (h : zBv M off s) (h1 : 118 ≠ k) (h2 : 122 ≠ k) (h3 : 123 ≠ k) : zBv (zU M.1 k j x, M.2) off s := by
  refine ⟨?_, fun i hi => ?_⟩
  · show zU M.1 k j x 118 11 = _
    rw [zU_off h1]; exact h.1
  · show zU M.1 k j x 122 i = _ ∧ zU M.1 k j x 123 i = _
    rw [zU_off h2, zU_off h3]; exact h.2 i hi
