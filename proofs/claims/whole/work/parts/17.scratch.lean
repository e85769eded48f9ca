/-! THE REFERENCE's scratch: what a question may change -/
def zSrI (a j : Nat) : Bool := (decide (122 ≤ a) && decide (a ≤ 126)) || (a == 118 && (j == 11 || j == 12 || j == 13))
def zSr (M M' : zM) : Prop := (∀ a j, zSrI a j = false → M'.1 a j = M.1 a j) ∧ (∀ a, a ≠ 121 → M'.2.1 a = M.2.1 a) ∧ M'.2.2 = M.2.2
theorem zSr.rf {M : zM} : zSr M M := ⟨fun _ _ _ => rfl, fun _ _ => rfl, rfl⟩
theorem zSr.tr {M M1 M2 : zM} (h : zSr M M1) (h2 : zSr M1 M2) : zSr M M2 := ⟨fun a j hj => (h2.1 a j hj).trans (h.1 a j hj), fun a ha => (h2.2.1 a ha).trans (h.2.1 a ha), h2.2.2.trans h.2.2⟩
theorem zSr.ofL {M : zM} {L : Nat → Nat → Int64} (h : ∀ a, a ≠ 121 → L a = M.2.1 a) : zSr M (M.1, L, M.2.2) := ⟨fun _ _ _ => rfl, h, rfl⟩
theorem zSr.ra {M M' : zM} {w : Nat} {v : zV} (h : zSr M M') (hA : zRA M w v) : zRA M' w v := by
  refine ⟨(congrArg Prod.snd h.2.2).trans hA.1, hA.2.1, fun j hj => ?_⟩
  rw [h.1 w j (by rcases hA.2.1 with rfl | rfl <;> simp [zSrI])]
  exact hA.2.2 j hj
theorem zSr.td {M M' : zM} {d : Nat} (h : zSr M M') (hd : M.1 118 4 = nI d) : M'.1 118 4 = nI d := by rw [h.1 118 4 rfl]; exact hd
theorem zSr.put {M : zM} {k j : Nat} {x : Int32} (h : zSrI k j = true) : zSr M (zU M.1 k j x, M.2) := by
  refine ⟨fun a i hai => ?_, fun _ _ => rfl, rfl⟩
  show zU M.1 k j x a i = M.1 a i
  unfold zU
  split
  · rename_i e
    subst e
    show (if i = j then x else M.1 a i) = _
    split
    · rename_i e; subst e; rw [h] at hai; cases hai
    · rfl
  · rfl
def voffer (v : zV) (d g : Nat) : Nat := min 9999 (gp v g 5 * vloss v d g / 1000000)
def vbid (v : zV) (d g : Nat) : Bool := vdam v d g && !vlost v d g && !decide (vneed v d g = 0) && (vpm v g (vfm v d g)).isSome && decide (max 1 (v 2) ≤ voffer v d g)
theorem zmaxI {a b : Nat} (ha : a < 2 ^ 31) (hb : b < 2 ^ 31) : (if nI a < nI b then nI b else nI a) = nI (max a b) := by
  by_cases h : a < b
  · rw [if_pos (nI_lt h hb)]; congr 1; omega
  · rw [if_neg (nI_nlt (by omega) ha)]; congr 1; omega
theorem zminI {a b : Nat} (ha : a < 2 ^ 31) (hb : b < 2 ^ 31) : (if nI b < nI a then nI b else nI a) = nI (min a b) := by
  by_cases h : b < a
  · rw [if_pos (nI_lt h ha)]; congr 1; omega
  · rw [if_neg (nI_nlt (by omega) hb)]; congr 1; omega
theorem zminL {a b : Nat} (ha : a < 2 ^ 63) (hb : b < 2 ^ 63) : (if lN b < lN a then lN b else lN a) = lN (min a b) := by
  by_cases h : b < a
  · rw [if_pos ((pk_lLT hb ha).mpr h)]; congr 1; omega
  · rw [if_neg (fun q => h ((pk_lLT hb ha).mp q))]; congr 1; omega
/-- max(0, a - b) -/
theorem zmax0 {a b : Nat} (ha : a < 2 ^ 30) (hb : b < 2 ^ 30) : (if (0 : Int32) < nI a - nI b then nI a - nI b else 0) = nI (a - b) := by
  by_cases h : b < a
  · rw [pk_sub (by omega), if_pos]
    rw [← nI_zero]
    exact nI_lt (by omega) (by omega)
  · have e : a - b = 0 := by omega
    rw [e, if_neg]
    · rfl
    · intro q
      rw [Int32.lt_iff_toInt_lt, pk_sub_toInt ha hb] at q
      have : (0 : Int32).toInt = 0 := rfl
      omega
theorem zWF.offer {v : zV} (hW : zWF v) {d g : Nat} (hg : g < v 8) : gp v g 5 * vloss v d g ≤ 9999 * 1000000000 := Nat.mul_le_mul (hW.grp hg).2.2.2.2.2.2.2.2.2.1 (vloss_le (hW.risk hg))
theorem voffer_le (v : zV) (d g : Nat) : voffer v d g ≤ 9999 := by unfold voffer; omega
theorem vneed_le {v : zV} (hW : zWF v) {d g : Nat} (hg : g < v 8) : vneed v d g ≤ 7000 ∧ (vsh v g - vnav v d g) * vcost v g ≤ 7000 := by
  have h1 : (vsh v g - vnav v d g) * vcost v g ≤ 10 * 700 := Nat.mul_le_mul (by have := (hW.sh hg).2; omega) (hW.cost hg).2
  unfold vneed
  omega
theorem vfm_lt {v : zV} {d g : Nat} (h : vdam v d g = true) : vfm v d g < vsh v g := by unfold vdam at h; simpa using h
theorem vmiss_cnt {v : zV} {d g : Nat} (h : vsh v g ≤ 16) : zCnt 16 (fun i => (vmiss v d g).testBit i) = vsh v g - vnav v d g := by
  unfold vmiss
  rw [zCnt_mask h]
  have h1 := zCnt_not (vsh v g) (fun s => vav v d g s)
  unfold vnav
  omega
theorem vmiss_lt {v : zV} {d g : Nat} (h : vsh v g ≤ 16) : vmiss v d g < 2 ^ 31 := Nat.lt_of_lt_of_le (zMask_lt _ _) (Nat.pow_le_pow_right (by decide) (by omega))
