/-! NUMBERS: the ints of both sides are numbers nI n -/
theorem zl (n : Nat) : (OfNat.ofNat n : Int32) = nI n := rfl
theorem zl64 (n : Nat) : (OfNat.ofNat n : Int64) = lN n := rfl
def zb (b : Bool) : Int32 := if b then 1 else 0
theorem zb_eq0 {b : Bool} : zb b = 0 ↔ b = false := by cases b <;> simp [zb]
theorem zb_ne0 {b : Bool} : ¬ zb b = 0 ↔ b = true := by cases b <;> simp [zb]
theorem zb_eq1 {b : Bool} : zb b = 1 ↔ b = true := by cases b <;> simp [zb]
theorem zb_nar (b : Bool) : narrow .boolean (.int (zb b)) = .int (zb b) := by cases b <;> rfl
theorem nI_lt0 {n : Nat} (h : n < 2 ^ 31) : ¬ nI n < 0 := nI_pos h
theorem m1_lt0 : (-1 : Int32) < 0 := by decide
theorem nI_ne_m1 {n : Nat} (h : n < 2 ^ 31) : nI n ≠ -1 := fun e => nI_lt0 h (e ▸ m1_lt0)
theorem nI_eq0 {n : Nat} (h : n < 2 ^ 31) : nI n = 0 ↔ n = 0 := by
  constructor
  · intro e
    rcases Nat.eq_zero_or_pos n with q | q
    · exact q
    · exact absurd e (nI_ne0 q h)
  · rintro rfl; exact nI_0
theorem nI_mod (n : Nat) : nI n = nI (n % 2 ^ 32) := by
  apply Int32.toBitVec_inj.mp
  show BitVec.ofNat 32 n = BitVec.ofNat 32 (n % 2 ^ 32)
  apply BitVec.eq_of_toNat_eq
  simp
/-- a place in a row -/
theorem zin_at {x : Int32} {j n : Nat} (e : x = nI j) (h : j < n) (hn : n < 2 ^ 31) : vp_in x n := by rw [e]; exact vp_in_nI h hn
theorem zcl {x : Int32} {j : Nat} (e : x = nI j) (h : j < 2 ^ 31) : x.toNatClampNeg = j := by rw [e]; exact nI_clamp h
/-! the counting folds -/
theorem zFor_succ {σ : Type} (n : Nat) (f : Nat → σ → σ) (s : σ) : zFor (n + 1) f s = f n (zFor n f s) := rfl
theorem zFor_congr {σ : Type} {n : Nat} {f g : Nat → σ → σ} {s : σ} (h : ∀ i t, i < n → f i t = g i t) : zFor n f s = zFor n g s := by
  induction n with
  | zero => rfl
  | succ n ih => rw [zFor_succ, zFor_succ, ih (fun i t hi => h i t (by omega)), h n _ (by omega)]
theorem zFor_inv {σ : Type} {P : Nat → σ → Prop} {n : Nat} {f : Nat → σ → σ} {s : σ} (h0 : P 0 s) (hs : ∀ i t, i < n → P i t → P (i + 1) (f i t)) : P n (zFor n f s) := by
  have key : ∀ k, k ≤ n → P k (zFor k f s) := by
    intro k
    induction k with
    | zero => intro _; exact h0
    | succ k ih => intro hk; exact hs k _ (by omega) (ih (by omega))
  exact key n (Nat.le_refl n)
/-- how many -/
def zCnt (n : Nat) (p : Nat → Bool) : Nat := zFor n (fun i a => if p i then a + 1 else a) 0
/-- the set of those -/
def zMask (n : Nat) (p : Nat → Bool) : Nat := zFor n (fun i a => if p i then a + 2 ^ i else a) 0
/-- the first; n if none -/
def zFst : Nat → (Nat → Bool) → Nat
  | 0, _ => 0
  | n + 1, p => if zFst n p < n then zFst n p else if p n then n else n + 1
def zAny (n : Nat) (p : Nat → Bool) : Bool := zFor n (fun i a => a || p i) false
theorem zFst_le (n : Nat) (p : Nat → Bool) : zFst n p ≤ n := by
  induction n with
  | zero => exact Nat.le_refl 0
  | succ n ih => unfold zFst; split; omega; split <;> omega
theorem zFst_lt {n : Nat} {p : Nat → Bool} (h : zFst n p < n) : p (zFst n p) = true := by
  induction n with
  | zero => omega
  | succ n ih =>
    unfold zFst at h ⊢
    split
    · rename_i q; exact ih q
    · rename_i q
      rw [if_neg q] at h
      split
      · rename_i q2; exact q2
      · rename_i q2; rw [if_neg q2] at h; omega
theorem zFst_min {n : Nat} {p : Nat → Bool} {i : Nat} (hi : i < zFst n p) (hn : i < n) : p i = false := by
  induction n with
  | zero => omega
  | succ n ih =>
    unfold zFst at hi
    split at hi
    · rename_i q; exact ih hi (by omega)
    · rename_i q
      have e : zFst n p = n := by have := zFst_le n p; omega
      split at hi
      · exact ih (by omega) hi
      · rename_i q2
        rcases Nat.lt_or_ge i n with h | h
        · exact ih (by omega) h
        · have : i = n := by omega
          subst this
          simpa using q2
theorem zFst_eq {n k : Nat} {p : Nat → Bool} (hk : k < n) (hp : p k = true) (hm : ∀ i, i < k → p i = false) : zFst n p = k := by
  rcases Nat.lt_trichotomy (zFst n p) k with h | h | h
  · have := zFst_lt (p := p) (n := n) (by omega)
    rw [hm _ h] at this
    cases this
  · exact h
  · have := zFst_min (p := p) (n := n) h hk
    rw [hp] at this
    cases this
theorem zFst_none {n : Nat} {p : Nat → Bool} : zFst n p = n ↔ ∀ i, i < n → p i = false := by
  constructor
  · intro h i hi; exact zFst_min (by omega) hi
  · intro h
    have h1 := zFst_le n p
    rcases Nat.lt_or_ge (zFst n p) n with q | q
    · have := zFst_lt q
      rw [h _ q] at this
      cases this
    · omega
theorem zAny_iff {n : Nat} {p : Nat → Bool} : zAny n p = true ↔ ∃ i, i < n ∧ p i = true := by
  induction n with
  | zero => simp [zAny, zFor]
  | succ n ih =>
    have e : zAny (n + 1) p = (zAny n p || p n) := rfl
    rw [e, Bool.or_eq_true, ih]
    constructor
    · rintro (⟨i, h1, h2⟩ | h)
      · exact ⟨i, by omega, h2⟩
      · exact ⟨n, by omega, h⟩
    · rintro ⟨i, h1, h2⟩
      rcases Nat.lt_or_ge i n with h | h
      · exact Or.inl ⟨i, h, h2⟩
      · have : i = n := by omega
        subst this
        exact Or.inr h2
theorem zCnt_le (n : Nat) (p : Nat → Bool) : zCnt n p ≤ n := by
  induction n with
  | zero => exact Nat.le_refl 0
  | succ n ih =>
    show (if p n then zCnt n p + 1 else zCnt n p) ≤ n + 1
    split <;> omega
theorem zCnt_succ (n : Nat) (p : Nat → Bool) : zCnt (n + 1) p = if p n then zCnt n p + 1 else zCnt n p := rfl
theorem zMask_succ (n : Nat) (p : Nat → Bool) : zMask (n + 1) p = if p n then zMask n p + 2 ^ n else zMask n p := rfl
theorem zMask_lt (n : Nat) (p : Nat → Bool) : zMask n p < 2 ^ n := by
  induction n with
  | zero => exact Nat.one_pos
  | succ n ih =>
    rw [zMask_succ, Nat.pow_succ]
    split <;> omega
theorem zMask_bit {n : Nat} {p : Nat → Bool} {i : Nat} : (zMask n p).testBit i = (decide (i < n) && p i) := by
  induction n with
  | zero => simp [zMask, zFor]
  | succ n ih =>
    rw [zMask_succ]
    have hl := zMask_lt n p
    split
    · rename_i q
      rcases Nat.lt_trichotomy i n with h | h | h
      · rw [Nat.add_comm, Nat.testBit_two_pow_add_gt h, ih]
        simp [h, Nat.lt_succ_of_lt h]
      · subst h
        rw [Nat.add_comm, Nat.testBit_two_pow_add_eq, ih]
        simp [q]
      · have h1 : ¬ i < n + 1 := by omega
        have h2 : zMask n p + 2 ^ n < 2 ^ i := Nat.lt_of_lt_of_le (by rw [show (2 : Nat) ^ (n + 1) = 2 ^ n + 2 ^ n by rw [Nat.pow_succ]; omega]; omega) (Nat.pow_le_pow_right (by decide) h)
        rw [Nat.testBit_lt_two_pow h2]
        simp [h1]
    · rename_i q
      rw [ih]
      rcases Nat.lt_trichotomy i n with h | h | h
      · simp [h, Nat.lt_succ_of_lt h]
      · subst h; simp [q]
      · have h1 : ¬ i < n := by omega
        have h2 : ¬ i < n + 1 := by omega
        simp [h1, h2]
theorem zMask_congr {n : Nat} {p q : Nat → Bool} (h : ∀ i, i < n → p i = q i) : zMask n p = zMask n q := by
  unfold zMask
  exact zFor_congr (fun i t hi => by rw [h i hi])
theorem zCnt_congr {n : Nat} {p q : Nat → Bool} (h : ∀ i, i < n → p i = q i) : zCnt n p = zCnt n q := by
  unfold zCnt
  exact zFor_congr (fun i t hi => by rw [h i hi])
theorem zAny_congr {n : Nat} {p q : Nat → Bool} (h : ∀ i, i < n → p i = q i) : zAny n p = zAny n q := by
  unfold zAny
  exact zFor_congr (fun i t hi => by rw [h i hi])
theorem zFst_congr {n : Nat} {p q : Nat → Bool} (h : ∀ i, i < n → p i = q i) : zFst n p = zFst n q := by
  induction n with
  | zero => rfl
  | succ n ih =>
    unfold zFst
    rw [ih (fun i hi => h i (by omega)), h n (by omega)]
/-! THE STATE: the 698 numbers of the reference's row, as natural numbers -/
abbrev zV : Type := Nat → Nat
abbrev nd (v : zV) (n c : Nat) : Nat := v (10 + 12 * n + c)
abbrev tn (v : zV) (t c : Nat) : Nat := v (202 + 11 * t + c)
abbrev gp (v : zV) (g c : Nat) : Nat := v (268 + 23 * g + c)
abbrev hs (v : zV) (k c : Nat) : Nat := v (498 + 5 * k + c)
def vsh (v : zV) (g : Nat) : Nat := gp v g 2 + gp v g 3
abbrev hol (v : zV) (g s : Nat) : Nat := gp v g (7 + s)
/-- the shard's node is not down, nor thought to be -/
def vav (v : zV) (d g s : Nat) : Bool := (nd v (hol v g s) 4 != 1) && !(d.testBit (hol v g s))
def vmiss (v : zV) (d g : Nat) : Nat := zMask (vsh v g) (fun s => !vav v d g s)
def vnav (v : zV) (d g : Nat) : Nat := zCnt (vsh v g) (fun s => vav v d g s)
def vlost (v : zV) (d g : Nat) : Bool := decide (vnav v d g < gp v g 2)
def vfm (v : zV) (d g : Nat) : Nat := zFst (vsh v g) (fun s => !vav v d g s)
def vdam (v : zV) (d g : Nat) : Bool := decide (vfm v d g < vsh v g)
def vcost (v : zV) (g : Nat) : Nat := (gp v g 2 + 1) * gp v g 4
def vneed (v : zV) (d g : Nat) : Nat := (vsh v g - vnav v d g) * vcost v g - gp v g 6
/-- has the group, among its first many shards, one on the node -/
def vhas (v : zV) (g many n : Nat) : Bool := zAny many (fun s => hol v g s == n)
/-- how many shards of the first k groups lie on a node -/
def vcnt (v : zV) (k n : Nat) : Nat := zFor k (fun g a => zFor (vsh v g) (fun s a => if hol v g s = n then a + 1 else a) a) 0
/-! the reference's row w holds the state v, and is looked at -/
def zRow (w : Nat) : Prop := w = 119 ∨ w = 120
theorem zRow.lt {w : Nat} (h : zRow w) : w < 133 := by rcases h with rfl | rfl <;> decide
theorem zRow.ty {w : Nat} (h : zRow w) : zTy w = 20 := by rcases h with rfl | rfl <;> decide
theorem zRow.len {w : Nat} (h : zRow w) : zLen w = 698 := by rcases h with rfl | rfl <;> decide
theorem zRow.ne {w k : Nat} (h : zRow w) (hk : k ≠ 119 ∧ k ≠ 120) : w ≠ k := by rcases h with rfl | rfl <;> omega
def zRA (M : zM) (w : Nat) (v : zV) : Prop := M.2.2.2 = w ∧ zRow w ∧ ∀ j, j < 698 → M.1 w j = nI (v j)
theorem zRA.off {M : zM} {w k j : Nat} {v : zV} {x : Int32} (h : zRA M w v) (hk : k ≠ 119 ∧ k ≠ 120) : zRA (zU M.1 k j x, M.2) w v := by
  refine ⟨h.1, h.2.1, fun i hi => ?_⟩
  show zU M.1 k j x w i = _
  rw [zU_off (h.2.1.ne hk)]
  exact h.2.2 i hi
theorem zRA.offL {M : zM} {w k j : Nat} {v : zV} {x : Int64} (h : zRA M w v) : zRA (M.1, zU M.2.1 k j x, M.2.2) w v := ⟨h.1, h.2.1, h.2.2⟩
/-- one number set -/
def vset (v : zV) (j x : Nat) : zV := fun i => if i = j then x else v i
theorem zRA.set {M : zM} {w j : Nat} {v : zV} {x : Nat} (h : zRA M w v) : zRA (zU M.1 w j (nI x), M.2) w (vset v j x) := by
  refine ⟨h.1, h.2.1, fun i hi => ?_⟩
  show zU M.1 w j (nI x) w i = _
  rw [zU_at]
  show (if i = j then nI x else M.1 w i) = nI (if i = j then x else v i)
  by_cases e : i = j
  · rw [if_pos e, if_pos e]
  · rw [if_neg e, if_neg e]; exact h.2.2 i hi
theorem zRA.now {M : zM} {w : Nat} {v : zV} (h : zRA M w v) : zLay 9 3 118 M.2.2.2 = w := h.1
/-- bounds of a state -/
def zWF (v : zV) : Prop := v 0 ≤ 99999 ∧ v 1 ≤ 99999 ∧ v 2 ≤ 9999 ∧ v 3 ≤ 2 ∧ v 4 ≤ 99999 ∧ v 6 ≤ 16 ∧ v 7 ≤ 6 ∧ v 8 ≤ 10 ∧ v 9 ≤ 40 ∧
  (∀ n, n < v 6 → nd v n 0 ≤ 9999 ∧ nd v n 1 ≤ 9 ∧ nd v n 2 ≤ 999 ∧ nd v n 3 ≤ 50 ∧ nd v n 4 ≤ 2) ∧ (∀ n m, n < v 6 → m < v 6 → nd v n 0 = nd v m 0 → n = m) ∧
  (∀ t, t < v 7 → tn v t 0 ≤ 999999 ∧ tn v t 1 ≤ 999999 ∧ tn v t 2 ≤ 9999999 ∧ tn v t 4 ≤ 2000000000) ∧
  (∀ g, g < v 8 → gp v g 0 < v 7 ∧ gp v g 1 ≤ 9999 ∧ 1 ≤ gp v g 2 ∧ gp v g 2 ≤ 6 ∧ 1 ≤ gp v g 3 ∧ gp v g 3 ≤ 4 ∧ 1 ≤ gp v g 4 ∧ gp v g 4 ≤ 100 ∧ 1 ≤ gp v g 5 ∧ gp v g 5 ≤ 9999 ∧ gp v g 6 ≤ 7000) ∧
  (∀ g s, g < v 8 → s < vsh v g → hol v g s < v 6) ∧ (∀ g s t, g < v 8 → s < vsh v g → t < vsh v g → hol v g s = hol v g t → s = t) ∧
  (∀ k, k < v 9 → hs v k 2 ≤ 9999)

/-- a search -/
theorem zFind_rule {P : Nat → Prop} {n : Nat} {p : Nat → Bool} (hs : ∀ i, i < n → (∀ j, j < i → p j = false) → (p i = false → P (i + 1)) → P i) (he : (∀ j, j < n → p j = false) → P n) : P 0 := by
  have key : ∀ k, k ≤ n → (∀ j, j < n - k → p j = false) → P (n - k) := by
    intro k
    induction k with
    | zero => intro _ h; exact he h
    | succ k ih =>
      intro hk h
      have e : n - k = (n - (k + 1)) + 1 := by omega
      refine hs (n - (k + 1)) (by omega) h (fun hp => ?_)
      rw [← e]
      refine ih (by omega) (fun j hj => ?_)
      rcases Nat.lt_or_ge j (n - (k + 1)) with q | q
      · exact h j q
      · have : j = n - (k + 1) := by omega
        rw [this]; exact hp
  have := key n (Nat.le_refl n) (fun j hj => by omega)
  rwa [Nat.sub_self] at this
theorem zj_eq {y : MethodName} {cc : ByteArray} {nL : Nat} {ret : Option FieldType} {R : Room} {Q : Option Value → zM → Prop} {X : String → zM → Prop} {a b pc : Nat} {l l' : List (Option Value)} {st st' : List Value} {M M' : zM} (hl : l = l') (hs : st = st') (hM : M = M') (k : zJ y cc nL ret R Q X a b pc l' st' M') : zJ y cc nL ret R Q X a b pc l st M := by subst hl; subst hs; subst hM; exact k
theorem zb_dt {P : Prop} {i : Decidable P} (h : P) : zb (@decide P i) = 1 := by unfold zb; rw [if_pos (decide_eq_true h)]
theorem zb_df {P : Prop} {i : Decidable P} (h : ¬ P) : zb (@decide P i) = 0 := by unfold zb; rw [decide_eq_false h]; rfl
theorem zb_tt {b : Bool} (h : b = true) : zb b = 1 := by rw [h]; rfl
theorem zb_ff {b : Bool} (h : b = false) : zb b = 0 := by rw [h]; rfl
theorem zi64 {x : Int32} : x.toInt64.toInt = x.toInt := Int32.toInt_toInt64 x
theorem zt0 : (0 : Int64).toInt = 0 := rfl
theorem zand1 {n : Nat} (h : n < 2 ^ 31) : nI n &&& 1 = nI (n % 2) := by
  have := pk_andN (n := n) (by omega) (m := 1) 1 (by decide)
  simpa using this
theorem s_l : ∀ n, n < 32 → ((nI n &&& 31).toBitVec.smod 32).toNat = n := by decide +kernel
theorem zshr {d n : Nat} (hd : d < 2 ^ 31) (hn : n < 32) : nI d >>> (nI n &&& 31) = nI (d / 2 ^ n) := pk_shrN hd _ n (s_l n hn)
/-- a bit of a set, as both sides read it -/
theorem zbit {d n : Nat} (hd : d < 2 ^ 31) (hn : n < 32) : (nI d >>> (nI n &&& 31)) &&& 1 = zb (d.testBit n) := by
  rw [zshr hd hn, zand1 (Nat.lt_of_le_of_lt (Nat.div_le_self _ _) hd)]
  have e : d.testBit n = decide (d / 2 ^ n % 2 = 1) := by
    rw [Nat.testBit_eq_decide_div_mod_eq]
  rw [e]
  have h2 : d / 2 ^ n % 2 = 0 ∨ d / 2 ^ n % 2 = 1 := by omega
  rcases h2 with q | q <;> rw [q] <;> rfl
theorem zbit1 {n : Nat} (hn : n < 31) : (1 : Int32) <<< (nI n &&& 31) = nI (2 ^ n) := by
  have := pk_shlN (n := 1) (nI n &&& 31) n (s_l n (by omega)) (by
    have : (2 : Nat) ^ n ≤ 2 ^ 30 := Nat.pow_le_pow_right (by decide) (by omega)
    omega)
  rw [Nat.one_mul] at this
  exact this
theorem zor {a n : Nat} (ha : a < 2 ^ n) (hn : n < 31) : nI a ||| nI (2 ^ n) = nI (a + 2 ^ n) := by
  apply Int32.toBitVec_inj.mp
  have h2 : (2 : Nat) ^ n ≤ 2 ^ 30 := Nat.pow_le_pow_right (by decide) (by omega)
  show BitVec.ofNat 32 a ||| BitVec.ofNat 32 (2 ^ n) = BitVec.ofNat 32 (a + 2 ^ n)
  apply BitVec.eq_of_toNat_eq
  rw [BitVec.toNat_or, BitVec.toNat_ofNat, BitVec.toNat_ofNat, BitVec.toNat_ofNat, Nat.mod_eq_of_lt (by omega), Nat.mod_eq_of_lt (by omega), Nat.mod_eq_of_lt (by omega)]
  have h3 := Nat.two_pow_add_eq_or_of_lt ha 1
  rw [Nat.mul_one] at h3
  rw [Nat.add_comm a, h3, Nat.or_comm]
theorem zWF.nN {v : zV} (h : zWF v) : v 6 ≤ 16 := h.2.2.2.2.2.1
theorem zWF.tN {v : zV} (h : zWF v) : v 7 ≤ 6 := h.2.2.2.2.2.2.1
theorem zWF.gN {v : zV} (h : zWF v) : v 8 ≤ 10 := h.2.2.2.2.2.2.2.1
theorem zWF.hN {v : zV} (h : zWF v) : v 9 ≤ 40 := h.2.2.2.2.2.2.2.2.1
theorem zWF.node {v : zV} (h : zWF v) {n : Nat} (hn : n < v 6) : nd v n 0 ≤ 9999 ∧ nd v n 1 ≤ 9 ∧ nd v n 2 ≤ 999 ∧ nd v n 3 ≤ 50 ∧ nd v n 4 ≤ 2 := h.2.2.2.2.2.2.2.2.2.1 n hn
theorem zWF.apart {v : zV} (h : zWF v) {n m : Nat} (hn : n < v 6) (hm : m < v 6) (e : v (10 + 12 * n + 0) = v (10 + 12 * m + 0)) : n = m := h.2.2.2.2.2.2.2.2.2.2.1 n m hn hm e
theorem zWF.ten {v : zV} (h : zWF v) {t : Nat} (ht : t < v 7) : tn v t 0 ≤ 999999 ∧ tn v t 1 ≤ 999999 ∧ tn v t 2 ≤ 9999999 ∧ tn v t 4 ≤ 2000000000 := h.2.2.2.2.2.2.2.2.2.2.2.1 t ht
theorem zWF.grp {v : zV} (h : zWF v) {g : Nat} (hg : g < v 8) : gp v g 0 < v 7 ∧ gp v g 1 ≤ 9999 ∧ 1 ≤ gp v g 2 ∧ gp v g 2 ≤ 6 ∧ 1 ≤ gp v g 3 ∧ gp v g 3 ≤ 4 ∧ 1 ≤ gp v g 4 ∧ gp v g 4 ≤ 100 ∧ 1 ≤ gp v g 5 ∧ gp v g 5 ≤ 9999 ∧ gp v g 6 ≤ 7000 := h.2.2.2.2.2.2.2.2.2.2.2.2.1 g hg
theorem zWF.holds {v : zV} (h : zWF v) {g s : Nat} (hg : g < v 8) (hs : s < vsh v g) : hol v g s < v 6 := h.2.2.2.2.2.2.2.2.2.2.2.2.2.1 g s hg hs
theorem zWF.one {v : zV} (h : zWF v) {g s t : Nat} (hg : g < v 8) (hs : s < vsh v g) (ht : t < vsh v g) (e : v (268 + 23 * g + (7 + s)) = v (268 + 23 * g + (7 + t))) : s = t := h.2.2.2.2.2.2.2.2.2.2.2.2.2.2.1 g s t hg hs ht e
theorem zWF.hist {v : zV} (h : zWF v) {k : Nat} (hk : k < v 9) : hs v k 2 ≤ 9999 := h.2.2.2.2.2.2.2.2.2.2.2.2.2.2.2 k hk
theorem zWF.sh {v : zV} (h : zWF v) {g : Nat} (hg : g < v 8) : 2 ≤ vsh v g ∧ vsh v g ≤ 10 := by
  have := h.grp hg
  unfold vsh
  omega
theorem zWF.cost {v : zV} (h : zWF v) {g : Nat} (hg : g < v 8) : 1 ≤ vcost v g ∧ vcost v g ≤ 700 := by
  have := h.grp hg
  unfold vcost
  refine ⟨Nat.mul_pos (by omega) (by omega), ?_⟩
  exact Nat.mul_le_mul (show gp v g 2 + 1 ≤ 7 by omega) (show gp v g 4 ≤ 100 by omega)
theorem zb_eq0n {b : Bool} : zb b = nI 0 ↔ b = false := zb_eq0
theorem zb_eq1n {b : Bool} : zb b = nI 1 ↔ b = true := zb_eq1
theorem nI_one : nI 1 = 1 := rfl
theorem nI_zero : nI 0 = 0 := rfl
theorem zor0 (x : Int32) : x ||| 0 = x := by
  apply Int32.toBitVec_inj.mp
  show x.toBitVec ||| 0#32 = x.toBitVec
  simp
theorem zWF.gh {v : zV} (hW : zWF v) {g : Nat} (hg : g < v 8) : g < 10 ∧ vsh v g ≤ 10 ∧ (∀ s, s < vsh v g → hol v g s < 16) ∧ (∀ s, s < vsh v g → nd v (hol v g s) 4 < 2 ^ 31) ∧ ∀ s, s < vsh v g → nd v (hol v g s) 1 < 2 ^ 31 := by
  have h8 := hW.gN
  have h6 := hW.nN
  refine ⟨by omega, (hW.sh hg).2, fun s hs => ?_, fun s hs => ?_, fun s hs => ?_⟩
  · have := hW.holds hg hs; omega
  · have := (hW.node (hW.holds hg hs)).2.2.2.2; omega
  · have := (hW.node (hW.holds hg hs)).2.1; omega
theorem zCnt_mask {n k : Nat} {p : Nat → Bool} (h : n ≤ k) : zCnt k (fun i => (zMask n p).testBit i) = zCnt n p := by
  have e : zCnt k (fun i => (zMask n p).testBit i) = zCnt k (fun i => decide (i < n) && p i) := zCnt_congr (fun i _ => zMask_bit)
  rw [e]
  clear e
  induction k with
  | zero => have : n = 0 := by omega
            subst this; rfl
  | succ k ih =>
    rcases Nat.lt_or_ge k n with q | q
    · have : n = k + 1 := by omega
      subst this
      exact zCnt_congr (fun i hi => by simp [hi])
    · rw [zCnt_succ, ih q]
      have : ¬ k < n := by omega
      simp [this]
theorem zCnt_not (n : Nat) (p : Nat → Bool) : zCnt n (fun i => !p i) + zCnt n p = n := by
  induction n with
  | zero => rfl
  | succ n ih =>
    rw [zCnt_succ, zCnt_succ]
    cases p n <;> simp <;> omega
theorem vnav_eq {v : zV} {d g : Nat} (h : vsh v g ≤ 16) : nI (vsh v g) - nI (zCnt 16 (fun i => (vmiss v d g).testBit i)) = nI (vnav v d g) := by
  unfold vmiss
  rw [zCnt_mask h]
  have h1 := zCnt_not (vsh v g) (fun s => vav v d g s)
  have h2 := zCnt_le (vsh v g) (fun s => !vav v d g s)
  rw [pk_sub h2]
  unfold vnav
  congr 1
  omega
/-- a number or none -/
def zo : Option Nat → Int32
  | none => -1
  | some n => nI n
theorem zo_none {o : Option Nat} (h : ∀ n, o = some n → n < 2 ^ 31) : zo o = -1 ↔ o = none := by
  cases o with
  | none => simp [zo]
  | some n => simp [zo, nI_ne_m1 (h n rfl)]
theorem zo_some {o : Option Nat} (h : ¬ zo o = -1) : ∃ n, o = some n := by
  cases o with
  | none => exact absurd rfl h
  | some n => exact ⟨n, rfl⟩
def vstepN (v : zV) (p n : Nat) (s : Option Nat × Option Nat) : Option Nat × Option Nat :=
  (match s.1 with
    | none => if p ≤ nd v n 0 then some n else none
    | some b => if p ≤ nd v n 0 ∧ nd v n 0 < nd v b 0 then some n else some b,
   match s.2 with
    | none => some n
    | some b => if nd v n 0 < nd v b 0 then some n else some b)
/-- the first node at a position or behind -/
def vfrom (v : zV) (p : Nat) : Option Nat :=
  let r := zFor (v 6) (vstepN v p) (none, none)
  match r.1 with
  | none => r.2
  | some b => some b
theorem vstepN_lt {v : zV} {p n : Nat} {s : Option Nat × Option Nat} (h1 : ∀ b, s.1 = some b → b < n) (h2 : ∀ b, s.2 = some b → b < n) : (∀ b, (vstepN v p n s).1 = some b → b < n + 1) ∧ ∀ b, (vstepN v p n s).2 = some b → b < n + 1 := by
  obtain ⟨x, z⟩ := s
  constructor
  · intro b hb
    cases x with
    | none =>
      simp only [vstepN] at hb
      split at hb <;> first | (cases hb; omega) | cases hb
    | some c =>
      have := h1 c rfl
      simp only [vstepN] at hb
      split at hb <;> (cases hb; omega)
  · intro b hb
    cases z with
    | none =>
      simp only [vstepN] at hb
      cases hb; omega
    | some c =>
      have := h2 c rfl
      simp only [vstepN] at hb
      split at hb <;> (cases hb; omega)
theorem vfrom_lt {v : zV} {p n : Nat} (h : vfrom v p = some n) : n < v 6 := by
  have key := zFor_inv (P := fun i (s : Option Nat × Option Nat) => (∀ b, s.1 = some b → b < i) ∧ ∀ b, s.2 = some b → b < i) (n := v 6) (f := vstepN v p) (s := (none, none)) ⟨(fun b h => nomatch h), (fun b h => nomatch h)⟩ (fun i t _ ht => vstepN_lt ht.1 ht.2)
  unfold vfrom at h
  revert h
  generalize zFor (v 6) (vstepN v p) (none, none) = r at key ⊢
  intro h
  cases hr : r.1 with
  | none => simp only [hr] at h; exact key.2 n h
  | some b => simp only [hr] at h; cases h; exact key.1 n hr
/-- how many shards lie on the node; of a group that is not there yet the first few -/
def von (v : zV) (g few n : Nat) : Nat := zFor few (fun s a => if hol v g s = n then a + 1 else a) (vcnt v (v 8) n)
def vcan (v : zV) (g many few n : Nat) : Bool := (nd v n 4 == 0) && !vhas v g many n && decide (von v g few n < nd v n 3)
def vfz (v : zV) (g many : Nat) (but : Int32) (n : Nat) : Bool := !zAny many (fun s => !decide (nI s = but) && (nd v (hol v g s) 1 == nd v n 1))
def vnext (v : zV) (n : Nat) : Nat := (vfrom v (nd v n 0 + 1)).getD 0
def vscan (v : zV) (can fz : Nat → Bool) : Nat → Nat → Option Nat → Option Nat
  | 0, _, any => any
  | k + 1, n, any => if can n && fz n then some n else vscan v can fz k (vnext v n) (if can n && any.isNone then some n else any)
def vplace (v : zV) (g many few : Nat) (but : Int32) (p : Nat) : Option Nat := vscan v (vcan v g many few) (vfz v g many but) (v 6) ((vfrom v p).getD 0) none
theorem vstep2_some {v : zV} {p n : Nat} {s : Option Nat × Option Nat} : ∃ b, (vstepN v p n s).2 = some b := by
  obtain ⟨x, z⟩ := s
  cases z with
  | none => exact ⟨n, rfl⟩
  | some c => simp only [vstepN]; split <;> exact ⟨_, rfl⟩
theorem vfrom_some {v : zV} {p : Nat} (h : 0 < v 6) : ∃ n, vfrom v p = some n := by
  unfold vfrom
  obtain ⟨k, hk⟩ : ∃ k, v 6 = k + 1 := ⟨v 6 - 1, by omega⟩
  rw [hk, zFor_succ]
  generalize zFor k (vstepN v p) (none, none) = r
  obtain ⟨b, hb⟩ := vstep2_some (v := v) (p := p) (n := k) (s := r)
  cases hr : (vstepN v p k r).1 with
  | none => exact ⟨b, by simp only [hr]; exact hb⟩
  | some c => exact ⟨c, by simp only [hr]⟩
