/-! floorMod; locals forgotten -/
def zfmod (x : Int32) : Int32 := if 0 ≤ x ^^^ nI 10000 then x - x / nI 10000 * nI 10000 else if x - x / nI 10000 * nI 10000 = 0 then x - x / nI 10000 * nI 10000 else x - x / nI 10000 * nI 10000 + nI 10000
theorem zfmod_p' : ∀ i, i < 100 → ∀ j, j < 100 → zfmod (nI (100 * i + j)) = nI (100 * i + j) := by decide +kernel
theorem zfmod_n' : ∀ i, i < 100 → ∀ j, j < 100 → zfmod (-(nI (100 * i + j + 1))) = nI (10000 - (100 * i + j + 1)) := by decide +kernel
theorem zfmod_p (d : Nat) (h : d < 10000) : zfmod (nI d) = nI d := by
  have := zfmod_p' (d / 100) (by omega) (d % 100) (by omega)
  rwa [show 100 * (d / 100) + d % 100 = d by omega] at this
theorem zfmod_n (d : Nat) (h : d < 10001) (h0 : 0 < d) : zfmod (-(nI d)) = nI (10000 - d) := by
  have := zfmod_n' ((d - 1) / 100) (by omega) ((d - 1) % 100) (by omega)
  rwa [show 100 * ((d - 1) / 100) + (d - 1) % 100 + 1 = d by omega] at this
theorem nI_subn {a d : Nat} : nI a - nI (a + d) = -(nI d) := by
  rw [← nI_add]
  apply Int32.toBitVec_inj.mp
  show (nI a).toBitVec - ((nI a).toBitVec + (nI d).toBitVec) = -(nI d).toBitVec
  apply BitVec.eq_of_toNat_eq
  have h1 := (nI a).toBitVec.isLt
  have h2 := (nI d).toBitVec.isLt
  rw [BitVec.toNat_sub, BitVec.toNat_add, BitVec.toNat_neg]
  omega
theorem zfmod_at {a p : Nat} (ha : a < 10000) (hp : p ≤ 10000) : zfmod (nI a - nI p) = nI ((a + 10000 - p) % 10000) := by
  by_cases h : p ≤ a
  · rw [pk_sub h, zfmod_p _ (by omega)]
    congr 1
    omega
  · obtain ⟨d, rfl⟩ : ∃ d, p = a + d := ⟨p - a, by omega⟩
    rw [nI_subn, zfmod_n d (by omega) (by omega)]
    congr 1
    omega
def zKeep : List Bool → List (Option Value) → List (Option Value)
  | b :: bs, x :: l => (bif b then x else none) :: zKeep bs l
  | _, l => l
theorem zLe_rf : ∀ l : List (Option Value), zLe l l
  | [] => trivial
  | none :: r => zLe_rf r
  | some v :: r => ⟨rfl, zLe_rf r⟩
theorem zKeep_le : ∀ (bs : List Bool) (l : List (Option Value)), zLe (zKeep bs l) l
  | [], l => by
    have : zKeep [] l = l := by cases l <;> rfl
    rw [this]; exact zLe_rf l
  | true :: bs, [] => trivial
  | false :: bs, [] => trivial
  | false :: bs, x :: l => zKeep_le bs l
  | true :: bs, none :: l => zKeep_le bs l
  | true :: bs, some v :: l => ⟨rfl, zKeep_le bs l⟩
theorem zj_keep {y : MethodName} {cc : ByteArray} {nL : Nat} {ret : Option FieldType} {R : Room} {Q : Option Value → zM → Prop} {X : String → zM → Prop} {a b pc : Nat} {l : List (Option Value)} {st : List Value} {M : zM} (bs : List Bool) (k : zJ y cc nL ret R Q X a b pc (zKeep bs l) st M) : zJ y cc nL ret R Q X a b pc l st M := zj_sub (zKeep_le bs l) k
