/-! DOUBLES -/
theorem zvf {r : UInt64} (h : FP.Core.val64 r ≠ .nan) : vf_n64 r := by
  have h1 := (FP.Core.ne_nan r).mp h
  unfold vf_n64
  rw [UInt64.le_iff_toNat_le, UInt64.toNat_and]
  show r.toNat &&& (2 ^ 63 - 1) ≤ 9218868437227405312
  rw [Nat.and_two_pow_sub_one_eq_mod]
  exact h1
theorem zrr_cases (f : FP.Core.Fmt) (s : Bool) (A B : Nat) (e : Int) : (∃ c q, FP.Core.roundRatio f s A B e = .fin s c q) ∨ FP.Core.roundRatio f s A B e = .inf s := by
  unfold FP.Core.roundRatio FP.Core.roundAt FP.Core.settle FP.Core.bound
  split
  · exact Or.inl ⟨_, _, rfl⟩
  · split
    · split
      · exact Or.inl ⟨_, _, rfl⟩
      · exact Or.inr rfl
    · split
      · exact Or.inl ⟨_, _, rfl⟩
      · exact Or.inr rfl
theorem zfr {s : Bool} {n : Nat} (h0 : 0 < n) (h : n < 2 ^ 64) : ∃ c q, FP.Core.roundRatio FP.Core.b64 s n 1 0 = .fin s c q ∧ c ≠ 0 := by
  have hl : n.log2 < 64 := (Nat.log2_lt (by omega)).mpr h
  have hq : FP.Core.quantum FP.Core.b64 n 1 0 ≤ 11 := by
    have h9 : FP.Core.b64.qmin ≤ 0 := by decide
    have h8 : ((FP.Core.b64.p : Int) - 1) = 52 := by decide
    have h7 : Nat.log2 1 = 0 := by decide
    unfold FP.Core.quantum FP.Core.leading
    rw [h8, h7]
    dsimp only
    split <;> omega
  have hn : 1 ≤ FP.Core.nearest (FP.Core.unitsNum n 0 (FP.Core.quantum FP.Core.b64 n 1 0)) (FP.Core.unitsDen 1 0 (FP.Core.quantum FP.Core.b64 n 1 0)) := by
    refine FP.Core.nearest_ge (FP.Core.unitsDen_pos (by decide) _ _) ?_
    rcases FP.Core.quantum_not_below (f := FP.Core.b64) h0 (show 0 < 1 by decide) 0 with h2 | h2
    · rw [h2]
      unfold FP.Core.unitsNum FP.Core.unitsDen
      have : (FP.Core.b64.qmin - 0).toNat = 0 := by decide
      rw [this]
      have := Nat.two_pow_pos (0 - FP.Core.b64.qmin).toNat
      have := Nat.mul_le_mul h0 this
      omega
    · rw [show (FP.Core.b64.p : Int) - 1 = ((52 : Nat) : Int) by decide, ← FP.Core.units_below] at h2
      have := Nat.mul_le_mul_right (FP.Core.unitsDen 1 0 (FP.Core.quantum FP.Core.b64 n 1 0)) (show 1 ≤ 2 ^ 52 by decide)
      omega
  have hm : FP.Core.b64.qmax = 971 := by decide
  unfold FP.Core.roundRatio FP.Core.roundAt FP.Core.settle FP.Core.bound
  rw [if_neg (by omega)]
  split
  · rw [if_pos (by omega)]; exact ⟨_, _, rfl, by omega⟩
  · rw [if_pos (by omega)]; exact ⟨_, _, rfl, by decide⟩
theorem zfi {i : Int} (h : i.natAbs < 2 ^ 64) : ∃ c q, FP.Core.round FP.Core.b64 (FP.Core.ofInt i) = .fin (decide (i < 0)) c q ∧ (i ≠ 0 → c ≠ 0) := by
  by_cases h0 : i = 0
  · subst h0
    exact ⟨_, _, rfl, fun q => absurd rfl q⟩
  · obtain ⟨c, q, e, hc⟩ := zfr (s := decide (i < 0)) (n := i.natAbs) (by omega) h
    exact ⟨c, q, e, fun _ => hc⟩
theorem zi2d (x : Int32) : ∃ c q, FP.Core.val64 (FP.i2d x) = .fin (decide (x.toInt < 0)) c q ∧ (x.toInt ≠ 0 → c ≠ 0) := by
  rw [show FP.Core.val64 (FP.i2d x) = _ from FP.Core.val64_i2d x]
  have h1 := Int32.toInt_lt x
  have h2 := Int32.le_toInt x
  exact zfi (by omega)
theorem zl2d (x : Int64) : ∃ c q, FP.Core.val64 (FP.l2d x) = .fin (decide (x.toInt < 0)) c q ∧ (x.toInt ≠ 0 → c ≠ 0) := by
  rw [show FP.Core.val64 (FP.l2d x) = _ from FP.Core.val64_l2d x]
  have h1 := Int64.toInt_lt x
  have h2 := Int64.le_toInt x
  exact zfi (by omega)
theorem zdivv {x z : UInt64} {s t : Bool} {c d : Nat} {q r : Int} (hx : FP.Core.val64 x = .fin s c q) (hz : FP.Core.val64 z = .fin t d r) (hd : d ≠ 0) : (∃ c q, FP.Core.val64 (FP.ddiv x z) = .fin (s != t) c q) ∨ FP.Core.val64 (FP.ddiv x z) = .inf (s != t) := by
  rw [show FP.Core.val64 (FP.ddiv x z) = _ from FP.Core.val64_ddiv x z, hx, hz]
  show (∃ c' q', (if d = 0 then (if c = 0 then FP.Core.Datum.nan else .inf (s != t)) else FP.Core.roundRatio FP.Core.b64 (s != t) c d (q - r)) = .fin (s != t) c' q') ∨ (if d = 0 then (if c = 0 then FP.Core.Datum.nan else .inf (s != t)) else FP.Core.roundRatio FP.Core.b64 (s != t) c d (q - r)) = .inf (s != t)
  rw [if_neg hd]
  exact zrr_cases _ _ _ _ _
def zNN (x : UInt64) : Prop := (∃ c q, FP.Core.val64 x = .fin false c q) ∨ FP.Core.val64 x = .inf false
theorem zNN.n {x : UInt64} (h : zNN x) : vf_n64 x := zvf (by rcases h with ⟨c, q, e⟩ | e <;> rw [e] <;> exact fun q => by cases q)
theorem zNN.zero : zNN FP.dconst0 := Or.inl ⟨_, _, FP.Core.val64_dconst0⟩
theorem zNN.add {x z : UInt64} (h : zNN x) (h2 : zNN z) : zNN (FP.dadd x z) := by
  unfold zNN
  rw [show FP.Core.val64 (FP.dadd x z) = _ from FP.Core.val64_dadd x z]
  rcases h with ⟨c, q, e⟩ | e <;> rcases h2 with ⟨d, r, e2⟩ | e2 <;> rw [e, e2]
  · have hs : FP.Core.sumSign false false (FP.Core.sumUnits false c q false d r (min q r)) = false := by
      have hp : FP.Core.sumUnits false c q false d r (min q r) = ((FP.Core.inUnits c q (min q r) : Int) + (FP.Core.inUnits d r (min q r) : Int)) := rfl
      unfold FP.Core.sumSign
      rw [hp]
      split
      · rfl
      · exact decide_eq_false (by omega)
    show (∃ c' q', FP.Core.roundRatio FP.Core.b64 (FP.Core.sumSign false false (FP.Core.sumUnits false c q false d r (min q r))) _ 1 _ = .fin false c' q') ∨ FP.Core.roundRatio FP.Core.b64 (FP.Core.sumSign false false (FP.Core.sumUnits false c q false d r (min q r))) _ 1 _ = .inf false
    rw [hs]
    exact zrr_cases _ _ _ _ _
  · exact Or.inr rfl
  · exact Or.inr rfl
  · exact Or.inr rfl
theorem zNN.l {n : Nat} (h : n < 2 ^ 63) : ∃ c q, FP.Core.val64 (FP.l2d (lN n)) = .fin false c q := by
  obtain ⟨c, q, e, _⟩ := zl2d (lN n)
  rw [pk_lT h, decide_eq_false (by omega)] at e
  exact ⟨c, q, e⟩
theorem zNN.div {x z : UInt64} {c d : Nat} {q r : Int} (hx : FP.Core.val64 x = .fin false c q) (hz : FP.Core.val64 z = .fin false d r) (hd : d ≠ 0) : zNN (FP.ddiv x z) := zdivv hx hz hd
theorem zdivn {x z : UInt64} {s t : Bool} {c d : Nat} {q r : Int} (hx : FP.Core.val64 x = .fin s c q) (hz : FP.Core.val64 z = .fin t d r) (hd : d ≠ 0) : vf_n64 (FP.ddiv x z) := zvf (by rcases zdivv hx hz hd with ⟨_, _, e⟩ | e <;> rw [e] <;> exact fun q => by cases q)
theorem zdiv_il {x : Int32} {z : Int64} (h : z.toInt ≠ 0) : vf_n64 (FP.ddiv (FP.i2d x) (FP.l2d z)) := by
  obtain ⟨c, q, e, _⟩ := zi2d x
  obtain ⟨d, r, e2, h2⟩ := zl2d z
  exact zdivn e e2 (h2 h)
theorem zdiv_ii {x z : Int32} (h : z.toInt ≠ 0) : vf_n64 (FP.ddiv (FP.i2d x) (FP.i2d z)) := by
  obtain ⟨c, q, e, _⟩ := zi2d x
  obtain ⟨d, r, e2, h2⟩ := zi2d z
  exact zdivn e e2 (h2 h)
def zE9 : UInt64 := 0x41cdcd6500000000
theorem zE9_v : ∃ d r, FP.Core.val64 zE9 = .fin false d r ∧ d ≠ 0 := ⟨8388608000000000, -23, by decide +kernel, by decide⟩
theorem zvar_n {n : Nat} (h : n < 2 ^ 63) : zNN (FP.ddiv (FP.l2d (lN n)) zE9) := by
  obtain ⟨c, q, e⟩ := zNN.l h
  obtain ⟨d, r, e2, h2⟩ := zE9_v
  exact zNN.div e e2 h2
