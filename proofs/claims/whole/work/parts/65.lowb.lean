/-! LOWEST BITS -/
theorem zbit_pred {R i : Nat} (h1 : R.testBit i = true) (h2 : ∀ j, j < i → R.testBit j = false) (j : Nat) : (R - 1).testBit j = if j < i then true else if j = i then false else R.testBit j := by
  have e0 : R % 2 ^ i = 0 := by
    apply Nat.eq_of_testBit_eq
    intro j
    rw [Nat.testBit_mod_two_pow, Nat.zero_testBit]
    by_cases q : j < i
    · rw [h2 j q, Bool.and_false]
    · simp [q]
  have e1 : R = 2 ^ i * (R / 2 ^ i) + 0 := by
    have := Nat.div_add_mod R (2 ^ i)
    rw [e0] at this
    exact this.symm
  have e2 : (R / 2 ^ i) % 2 = 1 := by
    have := h1
    rw [Nat.testBit_eq_decide_div_mod_eq] at this
    exact of_decide_eq_true this
  generalize R / 2 ^ i = q at e1 e2
  obtain ⟨w, rfl⟩ : ∃ w, q = 2 * w + 1 := ⟨q / 2, by omega⟩
  have hp : 0 < 2 ^ i := Nat.two_pow_pos i
  have e3 : R - 1 = 2 ^ i * (2 * w) + (2 ^ i - 1) := by
    rw [e1, Nat.mul_add, Nat.mul_one]
    omega
  rw [e3, Nat.testBit_two_pow_mul_add _ (by omega)]
  by_cases c : j < i
  · rw [if_pos c, if_pos c, Nat.testBit_two_pow_sub_one]
    exact decide_eq_true c
  · rw [if_neg c, if_neg c]
    by_cases d : j = i
    · subst d
      rw [if_pos rfl, Nat.sub_self, Nat.testBit_zero]
      simp
    · rw [if_neg d, e1, Nat.testBit_two_pow_mul_add _ hp, if_neg c]
      obtain ⟨t, ht⟩ : ∃ t, j - i = t + 1 := ⟨j - i - 1, by omega⟩
      rw [ht, Nat.testBit_succ, Nat.testBit_succ]
      congr 1
      omega
theorem znegP (n : Nat) : -(nI (n + 1)) = nI n ^^^ (-1) := by
  apply Int32.toBitVec_inj.mp
  show -(BitVec.ofNat 32 (n + 1)) = BitVec.ofNat 32 n ^^^ BitVec.allOnes 32
  rw [BitVec.xor_comm, ← BitVec.not_def]
  apply BitVec.eq_of_toNat_eq
  rw [BitVec.toNat_neg, BitVec.toNat_not, BitVec.toNat_ofNat, BitVec.toNat_ofNat]
  omega
theorem zlowN {R i : Nat} (hR : R < 2 ^ 31) (h1 : R.testBit i = true) (h2 : ∀ j, j < i → R.testBit j = false) : nI R &&& -nI R = nI (2 ^ i) := by
  have h0 : 0 < R := Nat.pos_of_ne_zero (fun e => by rw [e, Nat.zero_testBit] at h1; cases h1)
  obtain ⟨n, rfl⟩ : ∃ n, R = n + 1 := ⟨R - 1, by omega⟩
  rw [znegP]
  exact zdiffN (fun j => by
    have := zbit_pred h1 h2 j
    rw [Nat.add_sub_cancel] at this
    rw [this, Nat.testBit_two_pow]
    by_cases a : j < i
    · rw [if_pos a, h2 j a]
      simp
      omega
    · rw [if_neg a]
      by_cases b : j = i
      · subst b; rw [if_pos rfl, h1]; simp
      · rw [if_neg b]
        cases (n + 1).testBit j <;> simp <;> omega)
theorem zdropN {R i : Nat} {c : Nat} (hR : R < 2 ^ 31) (h1 : R.testBit i = true) (h2 : ∀ j, j < i → R.testBit j = false) (hc : ∀ j, c.testBit j = (R.testBit j && !(j == i))) : nI R &&& (nI R - nI 1) = nI c := by
  have h0 : 0 < R := Nat.pos_of_ne_zero (fun e => by rw [e, Nat.zero_testBit] at h1; cases h1)
  rw [pk_sub (by omega), zandN hR (by omega)]
  refine congrArg nI (Nat.eq_of_testBit_eq (fun j => ?_))
  rw [Nat.testBit_and, zbit_pred h1 h2 j, hc j]
  by_cases a : j < i
  · rw [if_pos a, h2 j a]; rfl
  · rw [if_neg a]
    by_cases b : j = i
    · subst b; rw [if_pos rfl]; simp
    · rw [if_neg b]
      cases R.testBit j <;> simp [b]
def lbR (p : Nat → Bool) (j : Nat) : Nat := zMask 16 (fun n => p n && decide (j ≤ zCnt n p))
def lbL (p : Nat → Bool) (j : Nat) : Nat := zMask 16 (fun n => p n && decide (zCnt n p < j))
theorem zCnt_mono {p : Nat → Bool} {a b : Nat} (h : a ≤ b) : zCnt a p ≤ zCnt b p := by
  induction h with
  | refl => exact Nat.le_refl _
  | step h ih => rw [zCnt_succ]; split <;> omega
theorem zCnt_str {p : Nat → Bool} {a b : Nat} (h : a < b) (hp : p a = true) : zCnt a p < zCnt b p := by
  have := zCnt_mono (p := p) (show a + 1 ≤ b from h)
  rw [zCnt_succ, if_pos hp] at this
  omega
theorem zCnt_ivt {p : Nat → Bool} {j : Nat} : ∀ n, j < zCnt n p → ∃ i, i < n ∧ p i = true ∧ zCnt i p = j := by
  intro n
  induction n with
  | zero => intro h; exact absurd h (Nat.not_lt_zero j)
  | succ n ih =>
    intro h
    by_cases q : j < zCnt n p
    · obtain ⟨i, h1, h2⟩ := ih q
      exact ⟨i, by omega, h2⟩
    · rw [zCnt_succ] at h
      by_cases hp : p n = true
      · rw [if_pos hp] at h; exact ⟨n, by omega, hp, by omega⟩
      · rw [if_neg hp] at h; exact absurd h q
theorem lb_none {p : Nat → Bool} {j : Nat} (h : ∀ i, i < 16 → p i = true → zCnt i p ≠ j) {n : Nat} (hn : n < 16) : (p n && decide (j ≤ zCnt n p)) = false := by
  cases hp : p n with
  | false => rfl
  | true =>
    rw [Bool.true_and]
    refine decide_eq_false (fun q => ?_)
    have h1 := h n hn hp
    obtain ⟨i, h2, h3, h4⟩ := zCnt_ivt (p := p) (j := j) n (by omega)
    exact h i (by omega) h3 h4
theorem lb_step (p : Nat → Bool) (j : Nat) : (nI (lbL p j) ||| (nI (lbR p j) &&& -nI (lbR p j)) = nI (lbL p (j + 1))) ∧ nI (lbR p j) &&& (nI (lbR p j) - nI 1) = nI (lbR p (j + 1)) := by
  by_cases hx : ∃ i, i < 16 ∧ p i = true ∧ zCnt i p = j
  · obtain ⟨i, hi, hp, hj⟩ := hx
    have hb : ∀ n, (lbR p j).testBit n = (decide (n < 16) && (p n && decide (j ≤ zCnt n p))) := fun n => by unfold lbR; rw [zMask_bit]
    have h1 : (lbR p j).testBit i = true := by rw [hb, hp, decide_eq_true hi, decide_eq_true (by omega)]; rfl
    have h2 : ∀ n, n < i → (lbR p j).testBit n = false := fun n hn => by
      rw [hb]
      cases e : p n with
      | false => simp
      | true =>
        have := zCnt_str hn e
        rw [decide_eq_false (show ¬ j ≤ zCnt n p by omega)]; simp
    have hl : lbR p j < 2 ^ 31 := zMask_lt31 (by decide)
    constructor
    · rw [zlowN hl h1 h2]
      unfold lbL
      rw [zorN (zMask_lt31 (n := 16) (by decide)) (Nat.pow_lt_pow_right (by decide) (show i < 31 by omega))]
      rw [zMask_lor hi]
      refine congrArg nI (zMask_congr (fun n hn => ?_))
      by_cases q : n = i
      · subst q; rw [hp, decide_eq_true (show zCnt n p < j + 1 by omega)]; simp
      · rw [show (n == i) = false from beq_false_of_ne q, Bool.or_false]
        cases e : p n with
        | false => rfl
        | true =>
          rw [Bool.true_and, Bool.true_and]
          have : zCnt n p ≠ j := fun w => by
            rcases Nat.lt_or_ge n i with a | a
            · have := zCnt_str a e; omega
            · have := zCnt_str (show i < n by omega) hp; omega
          by_cases c : zCnt n p < j
          · rw [decide_eq_true c, decide_eq_true (by omega)]
          · rw [decide_eq_false c, decide_eq_false (by omega)]
    · refine zdropN hl h1 h2 (fun n => ?_)
      rw [hb]
      unfold lbR
      rw [zMask_bit, Bool.and_assoc]
      congr 1
      rw [Bool.and_assoc]
      cases e : p n with
      | false => rfl
      | true =>
        rw [Bool.true_and, Bool.true_and]
        by_cases q : n = i
        · subst q; rw [decide_eq_false (by omega)]; simp
        · rw [show (n == i) = false from beq_false_of_ne q, Bool.not_false, Bool.and_true]
          have : zCnt n p ≠ j := fun w => by
            rcases Nat.lt_or_ge n i with a | a
            · have := zCnt_str a e; omega
            · have := zCnt_str (show i < n by omega) hp; omega
          by_cases c : j ≤ zCnt n p
          · rw [decide_eq_true c, decide_eq_true (by omega)]
          · rw [decide_eq_false c, decide_eq_false (by omega)]
  · have hx : ∀ i, i < 16 → p i = true → zCnt i p ≠ j := fun i h1 h2 h3 => hx ⟨i, h1, h2, h3⟩
    have z0 : lbR p j = 0 := zMask_ne0.mpr (fun n hn => lb_none hx hn)
    have z1 : lbR p (j + 1) = 0 := zMask_ne0.mpr (fun n hn => by
      have := lb_none hx hn
      cases e : p n with
      | false => rfl
      | true =>
        rw [e, Bool.true_and] at this
        have := of_decide_eq_false this
        rw [Bool.true_and]; exact decide_eq_false (by omega))
    have z2 : lbL p (j + 1) = lbL p j := zMask_congr (fun n hn => by
      cases e : p n with
      | false => rfl
      | true =>
        have := hx n hn e
        rw [Bool.true_and, Bool.true_and]
        by_cases c : zCnt n p < j
        · rw [decide_eq_true c, decide_eq_true (by omega)]
        · rw [decide_eq_false c, decide_eq_false (by omega)])
    rw [z0, z1, z2]
    refine ⟨?_, by decide⟩
    rw [show nI 0 &&& -nI 0 = nI 0 by decide, zorN (show lbL p j < 2 ^ 31 from zMask_lt31 (by decide)) (by decide), Nat.or_zero]
def vlp (v : zV) (g n : Nat) : Bool := vhas v g (vsh v g) n && !(v (10 + 12 * n + 4) == 1)
theorem vlw_eq {v : zV} {g m : Nat} : ∀ k, vlw v g m k = (zMask k (fun n => vlp v g n && decide (zCnt n (vlp v g) < m)), m - zCnt k (vlp v g)) := by
  intro k
  induction k with
  | zero => rfl
  | succ k ih =>
    rw [vlw_succ, ih, zMask_succ, zCnt_succ]
    unfold vlwS
    dsimp only
    by_cases c : m - zCnt k (vlp v g) = 0
    · rw [if_pos c, decide_eq_false (by omega), Bool.and_false, if_neg (by decide)]
      refine Prod.ext rfl ?_
      dsimp only
      split <;> omega
    · rw [if_neg c, decide_eq_true (by omega), Bool.and_true]
      by_cases d : nd v k 4 = 1 ∨ vhas v g (vsh v g) k = false
      · have : vlp v g k = false := by
          unfold vlp
          rcases d with d | d
          · have d : v (10 + 12 * k + 4) = 1 := d
            rw [d]; simp
          · rw [d]; rfl
        rw [if_pos d, this, if_neg (by decide), if_neg (by decide)]
      · have d1 : ¬ v (10 + 12 * k + 4) = 1 := fun q => d (Or.inl q)
        have d2 : vhas v g (vsh v g) k = true := by
          cases e : vhas v g (vsh v g) k with
          | true => rfl
          | false => exact absurd (Or.inr e) d
        have : vlp v g k = true := by
          unfold vlp
          rw [d2, show (v (10 + 12 * k + 4) == 1) = false from beq_false_of_ne d1]; rfl
        rw [if_neg d, this, if_pos rfl, if_pos rfl]
        refine Prod.ext rfl ?_
        dsimp only; omega
theorem vhas_out {v : zV} (hW : zWF v) {g n : Nat} (hg : g < v 8) (hn : v 6 ≤ n) : ∀ m, m ≤ vsh v g → vhas v g m n = false := by
  intro m
  induction m with
  | zero => intro _; rfl
  | succ m ih =>
    intro hm
    rw [vhas_succ, ih (by omega)]
    have := hW.holds hg (show m < vsh v g by omega)
    exact beq_false_of_ne (by omega)
theorem zMask_up {p : Nat → Bool} {a : Nat} : ∀ b, a ≤ b → (∀ i, a ≤ i → i < b → p i = false) → zMask b p = zMask a p := by
  intro b
  induction b with
  | zero => intro h _; rw [show a = 0 by omega]
  | succ b ih =>
    intro h hp
    by_cases q : a = b + 1
    · rw [q]
    · rw [zMask_succ, hp b (by omega) (by omega), if_neg (by decide)]
      exact ih (by omega) (fun i h1 h2 => hp i h1 (by omega))
theorem vlw_lb {v : zV} (hW : zWF v) {g m : Nat} (hg : g < v 8) : (vlw v g m (v 6)).1 = lbL (vlp v g) m := by
  rw [vlw_eq]
  refine (zMask_up 16 hW.nN (fun i h1 _ => ?_)).symm
  unfold vlp
  rw [vhas_out hW hg h1 _ (Nat.le_refl _)]; rfl
theorem lb_0 {p : Nat → Bool} : lbR p 0 = zMask 16 p ∧ lbL p 0 = 0 := ⟨zMask_congr (fun n _ => by simp), zMask_ne0.mpr (fun n _ => by simp)⟩
