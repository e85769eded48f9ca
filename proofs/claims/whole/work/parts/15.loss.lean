/-! THE LOSS -/
def vp0 : Nat → Nat := fun j => if j = 0 then 1000000000 else 0
def vstepP (many q : Nat) (p : Nat → Nat) : Nat → Nat := fun j => if j ≤ many then (p j * (1000 - q) + (if j = 0 then 0 else p (j - 1)) * q) / 1000 else p j
def vprob (v : zV) (d g : Nat) : Nat → Nat := zFor (vsh v g) (fun s p => if vav v d g s then vstepP (vnav v d g) (nd v (hol v g s) 2) p else p) vp0
def vloss (v : zV) (d g : Nat) : Nat := if vlost v d g then 1000000000 else zFor (gp v g 2) (fun i a => a + vprob v d g (vnav v d g - gp v g 2 + 1 + i)) 0
/-- the sum of the first n -/
def vsum (p : Nat → Nat) (n : Nat) : Nat := zFor n (fun i a => a + p i) 0
theorem vsum_succ (p : Nat → Nat) (n : Nat) : vsum p (n + 1) = vsum p n + p n := rfl
theorem vsum_le {p : Nat → Nat} {n i : Nat} (h : i < n) : p i ≤ vsum p n := by
  induction n with
  | zero => omega
  | succ n ih =>
    rw [vsum_succ]
    rcases Nat.lt_or_ge i n with q | q
    · have := ih q; omega
    · have : i = n := by omega
      subst this; omega
theorem vsum_mono {p : Nat → Nat} {n m : Nat} (h : n ≤ m) : vsum p n ≤ vsum p m := by
  induction m with
  | zero => have : n = 0 := by omega
            subst this; exact Nat.le_refl _
  | succ m ih =>
    rcases Nat.lt_or_ge n (m + 1) with q | q
    · have := ih (by omega); rw [vsum_succ]; omega
    · have : n = m + 1 := by omega
      subst this; exact Nat.le_refl _
/-- below the edge: what is kept, and what has gone over it -/
theorem vstepP_key {many q : Nat} {p : Nat → Nat} (hq : q ≤ 1000) : ∀ n, n ≤ many + 1 → 1000 * vsum (vstepP many q p) n + (if n = 0 then 0 else p (n - 1) * q) ≤ 1000 * vsum p n := by
  intro n
  induction n with
  | zero => intro _; simp [vsum, zFor]
  | succ n ih =>
    intro hn
    have h1 := ih (by omega)
    rw [vsum_succ, vsum_succ]
    have h2 : 1000 * vstepP many q p n ≤ p n * (1000 - q) + (if n = 0 then 0 else p (n - 1)) * q := by
      unfold vstepP
      rw [if_pos (by omega)]
      exact Nat.mul_div_le _ _
    have h3 : p n * (1000 - q) + p n * q = p n * 1000 := by rw [← Nat.mul_add]; congr 1; omega
    have h4 : (if n = 0 then 0 else p (n - 1)) * q = (if n = 0 then 0 else p (n - 1) * q) := by split <;> simp
    rw [h4] at h2
    rw [if_neg (by omega), Nat.add_sub_cancel]
    generalize (if n = 0 then 0 else p (n - 1) * q) = z at h1 h2
    omega
theorem vstepP_sum {many q : Nat} {p : Nat → Nat} (hq : q ≤ 1000) : ∀ n, vsum (vstepP many q p) n ≤ vsum p n := by
  intro n
  rcases Nat.lt_or_ge n (many + 2) with h | h
  · have := vstepP_key (many := many) (p := p) hq n (by omega)
    omega
  · have h1 := vstepP_key (many := many) (p := p) hq (many + 1) (Nat.le_refl _)
    have key : ∀ k, vsum (vstepP many q p) (many + 1 + k) ≤ vsum p (many + 1 + k) := by
      intro k
      induction k with
      | zero => show vsum _ (many + 1) ≤ vsum _ (many + 1); omega
      | succ k ih =>
        show vsum _ (many + 1 + k) + vstepP many q p (many + 1 + k) ≤ vsum _ (many + 1 + k) + p (many + 1 + k)
        have : vstepP many q p (many + 1 + k) = p (many + 1 + k) := by unfold vstepP; rw [if_neg (by omega)]
        omega
    have := key (n - (many + 1))
    rw [show many + 1 + (n - (many + 1)) = n by omega] at this
    exact this
theorem vp0_sum : ∀ n, vsum vp0 n ≤ 1000000000 := by
  have key : ∀ n, vsum vp0 (n + 1) = 1000000000 := by
    intro n
    induction n with
    | zero => rfl
    | succ n ih => rw [vsum_succ, ih]; simp [vp0]
  intro n
  cases n with
  | zero => simp [vsum, zFor]
  | succ n => rw [key]; exact Nat.le_refl _
theorem vprob_part {v : zV} {d g k : Nat} (hr : ∀ s, s < vsh v g → nd v (hol v g s) 2 ≤ 999) (hk : k ≤ vsh v g) (n : Nat) : vsum (zFor k (fun s p => if vav v d g s then vstepP (vnav v d g) (nd v (hol v g s) 2) p else p) vp0) n ≤ 1000000000 := by
  revert n
  exact zFor_inv (P := fun _ p => ∀ n, vsum p n ≤ 1000000000) vp0_sum (fun i p hi hp n => by
    split
    · exact Nat.le_trans (vstepP_sum (by have := hr i (by omega); omega) n) (hp n)
    · exact hp n)
theorem vprob_sum {v : zV} {d g : Nat} (hr : ∀ s, s < vsh v g → nd v (hol v g s) 2 ≤ 999) (n : Nat) : vsum (vprob v d g) n ≤ 1000000000 := vprob_part hr (Nat.le_refl _) n
theorem vloss_le {v : zV} {d g : Nat} (hr : ∀ s, s < vsh v g → nd v (hol v g s) 2 ≤ 999) : vloss v d g ≤ 1000000000 := by
  unfold vloss
  split
  · exact Nat.le_refl _
  · generalize hb : vnav v d g - gp v g 2 + 1 = b
    have key : ∀ k, vsum (vprob v d g) b + zFor k (fun i a => a + vprob v d g (b + i)) 0 = vsum (vprob v d g) (b + k) := by
      intro k
      induction k with
      | zero => rfl
      | succ k ih => rw [zFor_succ, ← Nat.add_assoc, ih]; rfl
    have h1 := key (gp v g 2)
    have h2 := vprob_sum (d := d) hr (b + gp v g 2)
    omega
/-! a row of longs -/
def zLr (L : Nat → Nat → Int64) (k n : Nat) (p : Nat → Nat) : Prop := ∀ j, j < n → L k j = lN (p j)
theorem zU_row {L : Nat → Nat → Int64} {k : Nat} {f : Nat → Int64} {n : Nat} : (∀ a, a ≠ k → zFor n (fun i L => zU L k i (f i)) L a = L a) ∧ ∀ j, zFor n (fun i L => zU L k i (f i)) L k j = if j < n then f j else L k j := by
  induction n with
  | zero => exact ⟨fun a _ => rfl, fun j => by simp [zFor]⟩
  | succ n ih =>
    refine ⟨fun a ha => by rw [zFor_succ, zU_off ha]; exact ih.1 a ha, fun j => ?_⟩
    rw [zFor_succ, zU_at]
    show (if j = n then f n else zFor n (fun i L => zU L k i (f i)) L k j) = _
    rw [ih.2 j]
    by_cases h : j = n
    · subst h; simp
    · rw [if_neg h]
      by_cases h2 : j < n
      · rw [if_pos h2, if_pos (by omega)]
      · rw [if_neg h2, if_neg (by omega)]
/-- one shard's risk, from above downwards, in place -/
def zstepL (k many : Nat) (q : Int64) : Nat → (Nat → Nat → Int64) → Nat → Nat → Int64 := fun t L => zU L k (many - t) ((L k (many - t) * (1000 - q) + (if many - t = 0 then 0 else L k (many - t - 1) * q)) / 1000)
theorem zstepL_row {L : Nat → Nat → Int64} {k many q : Nat} {p : Nat → Nat} (hL : zLr L k 11 p) (hm : many ≤ 10) (hq : q ≤ 999) (hp : ∀ j, p j ≤ 1000000000) : zLr (zFor (many + 1) (zstepL k many (lN q)) L) k 11 (vstepP many q p) ∧ ∀ a, a ≠ k → zFor (many + 1) (zstepL k many (lN q)) L a = L a := by
  have key := zFor_inv (P := fun t (L' : Nat → Nat → Int64) => (∀ j, j < 11 → L' k j = lN (if many < j + t then vstepP many q p j else p j)) ∧ ∀ a, a ≠ k → L' a = L a) (n := many + 1) (f := zstepL k many (lN q)) (s := L)
    ⟨fun j hj => by
      rw [hL j hj]
      congr 1
      by_cases h : many < j + 0
      · rw [if_pos h]; unfold vstepP; rw [if_neg (by omega)]
      · rw [if_neg h], fun _ _ => rfl⟩
    (fun t L' ht h => by
      refine ⟨fun j hj => ?_, fun a ha => by unfold zstepL; rw [zU_off ha]; exact h.2 a ha⟩
      unfold zstepL
      rw [zU_at]
      show (if j = many - t then _ else L' k j) = _
      by_cases e : j = many - t
      · have hR : (if many < j + (t + 1) then vstepP many q p j else p j) = vstepP many q p j := if_pos (by omega)
        rw [if_pos e, ← e, hR, h.1 j hj, if_neg (show ¬ many < j + t by omega)]
        have h1000 : (1000 : Int64) - lN q = lN (1000 - q) := by rw [zl64]; exact lN_sub (show q ≤ 1000 by omega)
        have hp0 := hp j
        have hp1 := hp (j - 1)
        have m1 : p j * (1000 - q) ≤ 1000000000 * 1000 := Nat.mul_le_mul hp0 (by omega)
        have m2 : p (j - 1) * q ≤ 1000000000 * 1000 := Nat.mul_le_mul hp1 (by omega)
        rw [h1000, lN_mul]
        by_cases e0 : j = 0
        · rw [if_pos e0, Int64.add_zero, zl64, pk_lDiv (by omega) (by decide) (by decide)]
          unfold vstepP
          rw [if_pos (by omega), if_pos e0]
          simp
        · rw [if_neg e0, h.1 (j - 1) (by omega), if_neg (show ¬ many < j - 1 + t by omega), lN_mul, lN_add, zl64, pk_lDiv (by omega) (by decide) (by decide)]
          unfold vstepP
          rw [if_pos (by omega), if_neg e0]
      · rw [if_neg e, h.1 j hj]
        congr 1
        by_cases h2 : many < j + t
        · rw [if_pos h2, if_pos (by omega)]
        · rw [if_neg h2, if_neg (by omega)])
  refine ⟨fun j hj => ?_, key.2⟩
  rw [key.1 j hj, if_pos (by omega)]
theorem vcnt_le {v : zV} {k n : Nat} (h : ∀ g, g < k → vsh v g ≤ 10) : vcnt v k n ≤ 10 * k := by
  unfold vcnt
  have key : ∀ (g a m : Nat), zFor m (fun s a => if hol v g s = n then a + 1 else a) a ≤ a + m := by
    intro g a m
    induction m with
    | zero => exact Nat.le_refl _
    | succ m ih => rw [zFor_succ]; split <;> omega
  refine zFor_inv (P := fun i a => a ≤ 10 * i) (Nat.le_refl _) (fun i a hi ha => ?_)
  have h1 := key i a (vsh v i)
  have h2 := h i hi
  omega
theorem zWF.cnt {v : zV} (hW : zWF v) (n : Nat) : vcnt v (v 8) n ≤ 100 := by
  have := vcnt_le (v := v) (k := v 8) (n := n) (fun g hg => (hW.sh hg).2)
  have := hW.gN
  omega
theorem zWF.risk {v : zV} (hW : zWF v) {g : Nat} (hg : g < v 8) : ∀ s, s < vsh v g → nd v (hol v g s) 2 ≤ 999 := fun s hs => (hW.node (hW.holds hg hs)).2.2.1
