/-! A ROUND, spec: purses that grow, what can be paid, who gets what, prices -/
def vgrown (v : zV) (t : Nat) : Nat := max (tn v t 2) (min (tn v t 1) (tn v t 2 + tn v t 0))
def vten (v : zV) (d k : Nat) : Nat := gp v ((vord v d).2 k) 0
def voff (v : zV) (d k : Nat) : Nat := voffer v d ((vord v d).2 k)
def vnd (v : zV) (d k : Nat) : Nat := vneed v d ((vord v d).2 k)
def vspent (v : zV) (d : Nat) (u : Nat → Nat) (t k : Nat) : Nat := zFor k (fun i a => if vten v d i = t then a + voff v d i * u i else a) 0
def vcanp (v : zV) (d : Nat) (u : Nat → Nat) (k : Nat) : Nat := (vgrown v (vten v d k) - vspent v d u (vten v d k) k) / voff v d k
abbrev zR : Type := Nat × Bool × Nat × (Nat → Nat)
def vunit (v : zV) (d k : Nat) (s : zR) : Nat := min (vnd v d k) (min s.1 (vcanp v d s.2.2.2 k))
def vcut (v : zV) (d k : Nat) (s : zR) : Bool := decide (vunit v d k s ≠ vnd v d k) && decide (vcanp v d s.2.2.2 k ≠ vunit v d k s)
def vsellk (v : zV) (d k : Nat) : zR := zFor k (fun k s => (s.1 - vunit v d k s, s.2.1 || vcut v d k s, if !s.2.1 && vcut v d k s then voff v d k else s.2.2.1, fun j => if j = k then vunit v d k s else s.2.2.2 j)) (v 0 + v 4, false, v 2, fun _ => 0)
def vsell (v : zV) (d : Nat) : zR := vsellk v d (vord v d).1
def vprice (v : zV) (d k : Nat) : Nat := if v 3 = 0 then voff v d k else if v 3 = 2 then (vsell v d).2.2.1 else if k + 1 < (vord v d).1 then voff v d (k + 1) else v 2
def vunits (v : zV) (d k : Nat) : Nat := (vsell v d).2.2.2 k
def vpayd (v : zV) (d k : Nat) : Nat := vunits v d k * vprice v d k
theorem vsellk_succ (v : zV) (d k : Nat) : vsellk v d (k + 1) = ((vsellk v d k).1 - vunit v d k (vsellk v d k), (vsellk v d k).2.1 || vcut v d k (vsellk v d k), if !(vsellk v d k).2.1 && vcut v d k (vsellk v d k) then voff v d k else (vsellk v d k).2.2.1, fun j => if j = k then vunit v d k (vsellk v d k) else (vsellk v d k).2.2.2 j) := rfl
theorem vspent_succ (v : zV) (d : Nat) (u : Nat → Nat) (t k : Nat) : vspent v d u t (k + 1) = if vten v d k = t then vspent v d u t k + voff v d k * u k else vspent v d u t k := rfl
theorem vspent_congr {v : zV} {d t k : Nat} {u u' : Nat → Nat} (h : ∀ i, i < k → u i = u' i) : vspent v d u t k = vspent v d u' t k := zFor_congr (fun i a hi => by rw [h i hi])
theorem vspent_mono {v : zV} {d t i k : Nat} {u : Nat → Nat} (h : i ≤ k) : vspent v d u t i ≤ vspent v d u t k := by
  induction k with
  | zero => have : i = 0 := by omega
            rw [this]; exact Nat.le_refl _
  | succ k ih =>
    rcases Nat.lt_or_ge i (k + 1) with q | q
    · refine Nat.le_trans (ih (by omega)) ?_
      rw [vspent_succ]
      split <;> omega
    · have : i = k + 1 := by omega
      rw [this]; exact Nat.le_refl _
theorem vgrown_le {v : zV} (hW : zWF v) {t : Nat} (ht : t < v 7) : tn v t 2 ≤ vgrown v t ∧ vgrown v t ≤ 9999999 := by
  have := hW.ten ht
  unfold vgrown
  omega
/-- what is so at place k: the bidder, its tenant, its offer -/
theorem vbidder {v : zV} (hW : zWF v) {d k : Nat} (hk : k < (vord v d).1) : (vord v d).2 k < v 8 ∧ vten v d k < v 7 ∧ 1 ≤ voff v d k ∧ v 2 ≤ voff v d k ∧ voff v d k ≤ 9999 ∧ vnd v d k ≤ 7000 ∧ 1 ≤ vnd v d k := by
  obtain ⟨h1, h2⟩ := (vord_ok v d).2.1 k hk
  have h3 := (hW.grp h1).1
  have h4 := voffer_le v d ((vord v d).2 k)
  have h5 := (vneed_le hW (d := d) h1).1
  simp only [vbid, Bool.and_eq_true, decide_eq_true_eq, Bool.not_eq_true', decide_eq_false_iff_not] at h2
  have h6 := h2.2
  have h7 := h2.1.1.2
  refine ⟨h1, h3, ?_, ?_, h4, h5, ?_⟩
  · exact Nat.le_trans (Nat.le_max_left 1 (v 2)) h6
  · exact Nat.le_trans (Nat.le_max_right 1 (v 2)) h6
  · exact Nat.pos_of_ne_zero h7
theorem vunit_le (v : zV) (d k : Nat) (s : zR) : vunit v d k s ≤ vnd v d k ∧ vunit v d k s ≤ s.1 ∧ vunit v d k s ≤ vcanp v d s.2.2.2 k := by
  unfold vunit; omega
theorem vord_le {v : zV} (hW : zWF v) (d : Nat) : (vord v d).1 ≤ 10 := Nat.le_trans (vord_ok v d).1 hW.gN
def zSok (v : zV) (d k : Nat) (s : zR) : Prop := s.1 ≤ v 0 + v 4 ∧ (∀ i, i < k → s.2.2.2 i ≤ vnd v d i) ∧ (∀ t, t < v 7 → vspent v d s.2.2.2 t k ≤ vgrown v t) ∧ (s.2.1 = false → s.2.2.1 = v 2) ∧ (s.2.1 = true → s.1 = 0 ∧ ∀ i, i < k → 0 < s.2.2.2 i → s.2.2.1 ≤ voff v d i) ∧ s.2.2.1 ≤ 9999 ∧ (∀ i, k ≤ i → s.2.2.2 i = 0)
theorem vsellk_ok {v : zV} (hW : zWF v) {d : Nat} : ∀ k, k ≤ (vord v d).1 → zSok v d k (vsellk v d k) := by
  intro k
  induction k with
  | zero => intro _; exact ⟨Nat.le_refl _, fun i hi => absurd hi (Nat.not_lt_zero i), fun t _ => Nat.zero_le _, fun _ => rfl, (fun h => nomatch h), hW.2.2.1, fun i _ => rfl⟩
  | succ k ih =>
    intro hk
    obtain ⟨h1, h2, h3, h4, h5, h6, h7⟩ := ih (by omega)
    obtain ⟨b1, b2, b3, b4, b5, b6, b7⟩ := vbidder hW (show k < (vord v d).1 by omega)
    obtain ⟨u1, u2, u3⟩ := vunit_le v d k (vsellk v d k)
    rw [vsellk_succ]
    have hsp : ∀ t, vspent v d (fun j => if j = k then vunit v d k (vsellk v d k) else (vsellk v d k).2.2.2 j) t k = vspent v d (vsellk v d k).2.2.2 t k := fun t => vspent_congr (fun i hi => if_neg (by omega))
    refine ⟨?_, fun i hi => ?_, fun t ht => ?_, fun q => ?_, fun q => ?_, ?_, fun i hi => ?_⟩
    · show (vsellk v d k).1 - vunit v d k (vsellk v d k) ≤ _
      omega
    · show (if i = k then _ else _) ≤ _
      by_cases e : i = k
      · rw [if_pos e, e]; exact u1
      · rw [if_neg e]; exact h2 i (by omega)
    · show vspent v d (fun j => if j = k then vunit v d k (vsellk v d k) else (vsellk v d k).2.2.2 j) t (k + 1) ≤ _
      rw [vspent_succ, hsp, if_pos rfl]
      by_cases e : vten v d k = t
      · rw [if_pos e, ← e]
        have h3t := h3 _ b2
        have hm : voff v d k * vunit v d k (vsellk v d k) ≤ voff v d k * vcanp v d (vsellk v d k).2.2.2 k := Nat.mul_le_mul_left _ u3
        have hd := Nat.mul_div_le (vgrown v (vten v d k) - vspent v d (vsellk v d k).2.2.2 (vten v d k) k) (voff v d k)
        unfold vcanp at hm
        omega
      · rw [if_neg e]; exact h3 t ht
    · simp only [Bool.or_eq_false_iff] at q
      show (if (!(vsellk v d k).2.1 && vcut v d k (vsellk v d k)) = true then voff v d k else (vsellk v d k).2.2.1) = v 2
      rw [q.2, Bool.and_false, if_neg (by decide)]
      exact h4 q.1
    · show (vsellk v d k).1 - vunit v d k (vsellk v d k) = 0 ∧ ∀ i, i < k + 1 → 0 < (if i = k then vunit v d k (vsellk v d k) else (vsellk v d k).2.2.2 i) → (if (!(vsellk v d k).2.1 && vcut v d k (vsellk v d k)) = true then voff v d k else (vsellk v d k).2.2.1) ≤ voff v d i
      cases hf : (vsellk v d k).2.1 with
      | true =>
        obtain ⟨g1, g2⟩ := h5 hf
        refine ⟨by omega, fun i hi hu => ?_⟩
        show (if (!true && vcut v d k (vsellk v d k)) = true then voff v d k else (vsellk v d k).2.2.1) ≤ voff v d i
        rw [Bool.not_true, Bool.false_and, if_neg (by decide)]
        by_cases e : i = k
        · rw [if_pos e] at hu; omega
        · rw [if_neg e] at hu; exact g2 i (by omega) hu
      | false =>
        simp only [hf, Bool.false_or] at q
        have q0 : vcut v d k (vsellk v d k) = true := q
        have q' := q
        simp only [vcut, Bool.and_eq_true, decide_eq_true_eq] at q'
        refine ⟨?_, fun i hi hu => ?_⟩
        · have : vunit v d k (vsellk v d k) = min (vnd v d k) (min (vsellk v d k).1 (vcanp v d (vsellk v d k).2.2.2 k)) := rfl
          omega
        · show (if (!false && vcut v d k (vsellk v d k)) = true then voff v d k else (vsellk v d k).2.2.1) ≤ voff v d i
          rw [q0, if_pos (by decide)]
          rcases Nat.lt_or_ge i k with q2 | q2
          · exact (vord_ok v d).2.2.1 i k q2 (by omega)
          · have : i = k := by omega
            rw [this]; exact Nat.le_refl _
    · show (if (!(vsellk v d k).2.1 && vcut v d k (vsellk v d k)) = true then voff v d k else (vsellk v d k).2.2.1) ≤ 9999
      split
      · exact b5
      · exact h6
    · show (if i = k then _ else _) = 0
      rw [if_neg (by omega)]; exact h7 i (by omega)
theorem vsell_ok {v : zV} (hW : zWF v) (d : Nat) : zSok v d (vord v d).1 (vsell v d) := vsellk_ok hW _ (Nat.le_refl _)
theorem vprice_le {v : zV} (hW : zWF v) {d k : Nat} (hk : k < (vord v d).1) : vprice v d k ≤ 9999 := by
  obtain ⟨b1, b2, b3, b4, b5, b6, b7⟩ := vbidder hW hk
  have h6 := (vsell_ok hW d).2.2.2.2.2.1
  unfold vprice
  split
  · exact b5
  · split
    · exact h6
    · split
      · rename_i q; exact (vbidder hW q).2.2.2.2.1
      · omega
theorem vpayd_le {v : zV} (hW : zWF v) {d k : Nat} (hk : k < (vord v d).1) : vpayd v d k ≤ voff v d k * vunits v d k := by
  obtain ⟨b1, b2, b3, b4, b5, b6, b7⟩ := vbidder hW hk
  obtain ⟨h1, h2, h3, h4, h5, h6, h7⟩ := vsell_ok hW d
  unfold vpayd
  rw [Nat.mul_comm (voff v d k)]
  rcases Nat.eq_zero_or_pos (vunits v d k) with e | e
  · rw [e]; omega
  · refine Nat.mul_le_mul_left _ ?_
    unfold vprice
    split
    · exact Nat.le_refl _
    · split
      · cases hf : (vsell v d).2.1 with
        | false => rw [h4 hf]; exact b4
        | true => exact (h5 hf).2 k hk e
      · split
        · rename_i q; exact (vord_ok v d).2.2.1 k (k + 1) (by omega) q
        · exact b4
/-! rows of a round in the memory -/
def zBn (M : zM) (v : zV) (d : Nat) : Prop := zBv M (voffer v d) (vord v d) ∧ ∀ k, k < (vord v d).1 → M.1 124 k = nI (vneed v d ((vord v d).2 k))
def zRd (M : zM) (v : zV) (d k : Nat) (s : zR) : Prop := zBn M v d ∧ (∀ i, i < k → M.1 125 i = nI (s.2.2.2 i)) ∧ M.1 118 12 = nI s.2.2.1 ∧ M.1 118 13 = nI s.1
theorem zBn.off {M : zM} {v : zV} {d k j : Nat} {x : Int32} (h : zBn M v d) (hk : 125 ≤ k ∨ k < 118 ∨ k = 118 ∧ j ≠ 11) : zBn (zU M.1 k j x, M.2) v d := by
  have g : ∀ a b, (a = 118 → b = 11) → (118 ≤ a ∧ a ≤ 124) → zU M.1 k j x a b = M.1 a b := by
    intro a b h1 h2
    rcases hk with q | q | q
    · exact congrFun (zU_off (show a ≠ k by omega)) b
    · exact congrFun (zU_off (show a ≠ k by omega)) b
    · by_cases e : a = k
      · subst e
        rw [zU_at]
        exact if_neg (by omega)
      · exact congrFun (zU_off e) b
  refine ⟨⟨?_, fun i hi => ⟨?_, ?_⟩⟩, fun i hi => ?_⟩
  · exact (g 118 11 (fun _ => rfl) (by decide)).trans h.1.1
  · exact (g 122 i (fun q => absurd q (by decide)) (by decide)).trans (h.1.2 i hi).1
  · exact (g 123 i (fun q => absurd q (by decide)) (by decide)).trans (h.1.2 i hi).2
  · exact (g 124 i (fun q => absurd q (by decide)) (by decide)).trans (h.2 i hi)
theorem zRd.step {M : zM} {v : zV} {d k x y : Nat} {s : zR} (h : zRd M v d k s) : zRd (zU (zU M.1 125 k (nI x)) 118 13 (nI y), M.2) v d (k + 1) (y, s.2.1, s.2.2.1, fun j => if j = k then x else s.2.2.2 j) := by
  obtain ⟨h1, h2, h3, h4⟩ := h
  refine ⟨zBn.off (M := (zU M.1 125 k (nI x), M.2)) (h1.off (by omega)) (by omega), fun i hi => ?_, ?_, ?_⟩
  · show zU (zU M.1 125 k (nI x)) 118 13 (nI y) 125 i = nI (if i = k then x else s.2.2.2 i)
    rw [zU_off (by decide), zU_at]
    show (if i = k then nI x else M.1 125 i) = _
    by_cases e : i = k
    · rw [if_pos e, if_pos e]
    · rw [if_neg e, if_neg e]; exact h2 i (by omega)
  · show zU (zU M.1 125 k (nI x)) 118 13 (nI y) 118 12 = nI s.2.2.1
    rw [zU_at, zU_off (by decide)]
    exact h3
  · show zU (zU M.1 125 k (nI x)) 118 13 (nI y) 118 13 = nI y
    rw [zU_at]
    exact if_pos rfl
theorem zRd.clr {M : zM} {v : zV} {d k c : Nat} {f : Bool} {s : zR} (h : zRd M v d k s) : zRd (zU M.1 118 12 (nI c), M.2) v d k (s.1, f, c, s.2.2.2) := by
  obtain ⟨h1, h2, h3, h4⟩ := h
  refine ⟨h1.off (by omega), fun i hi => ?_, ?_, ?_⟩
  · show zU M.1 118 12 (nI c) 125 i = nI (s.2.2.2 i)
    rw [zU_off (by decide)]; exact h2 i hi
  · show zU M.1 118 12 (nI c) 118 12 = nI c
    rw [zU_at]
    exact if_pos rfl
  · show zU M.1 118 12 (nI c) 118 13 = nI s.1
    rw [zU_at]
    exact h4
theorem zRd.price {M : zM} {v : zV} {d k j : Nat} {x : Int32} {s : zR} (h : zRd M v d k s) : zRd (zU M.1 126 j x, M.2) v d k s := by
  obtain ⟨h1, h2, h3, h4⟩ := h
  refine ⟨h1.off (by omega), fun i hi => ?_, ?_, ?_⟩
  · show zU M.1 126 j x 125 i = nI (s.2.2.2 i)
    rw [zU_off (by decide)]; exact h2 i hi
  · show zU M.1 126 j x 118 12 = _
    rw [zU_off (by decide)]; exact h3
  · show zU M.1 126 j x 118 13 = _
    rw [zU_off (by decide)]; exact h4
theorem vsellk_same {v : zV} {d k : Nat} (h : (vsellk v d k).2.1 = true ∨ vcut v d k (vsellk v d k) = false) : vsellk v d (k + 1) = ((vsellk v d k).1 - vunit v d k (vsellk v d k), (vsellk v d k).2.1, (vsellk v d k).2.2.1, fun j => if j = k then vunit v d k (vsellk v d k) else (vsellk v d k).2.2.2 j) := by
  rw [vsellk_succ]
  have e1 : ((vsellk v d k).2.1 || vcut v d k (vsellk v d k)) = (vsellk v d k).2.1 := by
    rcases h with q | q <;> rw [q] <;> simp
  have e2 : (!(vsellk v d k).2.1 && vcut v d k (vsellk v d k)) = false := by
    rcases h with q | q <;> rw [q] <;> simp
  rw [e1, e2, if_neg (by decide)]
theorem vsellk_new {v : zV} {d k : Nat} (h : (vsellk v d k).2.1 = false) (h2 : vcut v d k (vsellk v d k) = true) : vsellk v d (k + 1) = ((vsellk v d k).1 - vunit v d k (vsellk v d k), true, voff v d k, fun j => if j = k then vunit v d k (vsellk v d k) else (vsellk v d k).2.2.2 j) := by
  rw [vsellk_succ]
  have e1 : ((vsellk v d k).2.1 || vcut v d k (vsellk v d k)) = true := by rw [h2]; simp
  have e2 : (!(vsellk v d k).2.1 && vcut v d k (vsellk v d k)) = true := by rw [h, h2]; rfl
  rw [e1, e2, if_pos rfl]
