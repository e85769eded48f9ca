/-! THE CLASS'S RINGS -/
def zRi (r : Nat) : Prop := r < 99 ∧ r % 9 = 0
theorem zRi.le {r : Nat} (h : zRi r) : r ≤ 90 := by unfold zRi at h; omega
theorem zRi.lt {r : Nat} (h : zRi r) : r < 133 := by have := h.le; omega
theorem zRi.ty {r : Nat} (h : zRi r) : zTy r = 5 := by
  unfold zTy
  rw [if_pos h.1, if_pos h.2]
theorem zRi.ty1 {r c : Nat} (h : zRi r) (hc : c = 1 ∨ c = 3 ∨ c = 5 ∨ c = 7) : zTy (r + c) = 6 := by
  have h1 := h.le
  have h2 := h.2
  unfold zTy
  rw [if_pos (by omega), if_neg (by omega), if_pos (by omega)]
theorem zRi.ty2 {r c : Nat} (h : zRi r) (hc : c = 2 ∨ c = 4 ∨ c = 6 ∨ c = 8) : zTy (r + c) = 20 := by
  have h1 := h.le
  have h2 := h.2
  unfold zTy
  rw [if_pos (by omega), if_neg (by omega), if_neg (by omega)]
theorem zRi.ltc {r c : Nat} (h : zRi r) (hc : c ≤ 8) : r + c < 133 := by have := h.le; omega
theorem zRi.tb {r c : Nat} (h : zRi r) (hc : c = 1 ∨ c = 3 ∨ c = 5 ∨ c = 7) : zTb (r + c) := ⟨h.ltc (by omega), h.ty1 hc, h.ltc (c := c + 1) (by omega), h.ty2 (c := c + 1) (by omega)⟩
theorem zRi.l2 {r : Nat} (h : zRi r) : zLen (r + 2) = 128 ∧ zLen (r + 4) = 36 ∧ zLen (r + 6) = 210 ∧ zLen (r + 8) = 200 := by
  have h1 := h.le
  have h2 := h.2
  unfold zLen
  refine ⟨?_, ?_, ?_, ?_⟩
  · rw [if_pos (by omega), if_pos (by omega)]
  · rw [if_pos (by omega), if_neg (by omega), if_pos (by omega)]
  · rw [if_pos (by omega), if_neg (by omega), if_neg (by omega), if_pos (by omega)]
  · rw [if_pos (by omega), if_neg (by omega), if_neg (by omega), if_neg (by omega)]
/-- a name of up to six letters as a number -/
def vpk (f : Nat → Nat) : Nat := zFor 6 (fun k a => if f k = 0 then a else a * 32 + (f k - 96)) 0
def vname (v : zV) (b : Nat) : Nat := vpk (fun k => v (b + k))
def zNo (M : zM) (r : Nat) (v : zV) (cn : Nat → Nat) : Prop := zTN M (r + 1) 8 16 (v 6) ∧ ∀ n, n < v 6 → M.1 (r + 2) (n * 8 + 0) = nI (v (10 + 12 * n + 0)) ∧ M.1 (r + 2) (n * 8 + 1) = nI (v (10 + 12 * n + 1)) ∧ M.1 (r + 2) (n * 8 + 2) = nI (v (10 + 12 * n + 2)) ∧ M.1 (r + 2) (n * 8 + 3) = nI (v (10 + 12 * n + 3)) ∧ M.1 (r + 2) (n * 8 + 4) = nI (cn n) ∧ M.1 (r + 2) (n * 8 + 5) = nI (v (10 + 12 * n + 4)) ∧ M.1 (r + 2) (n * 8 + 6) = nI (v (10 + 12 * n + 5)) ∧ M.1 (r + 2) (n * 8 + 7) = nI (vname v (10 + 12 * n + 6))
def zTe (M : zM) (r : Nat) (v : zV) : Prop := zTN M (r + 3) 6 6 (v 7) ∧ ∀ t, t < v 7 → (∀ j, j < 5 → M.1 (r + 4) (t * 6 + j) = nI (v (202 + 11 * t + j))) ∧ M.1 (r + 4) (t * 6 + 5) = nI (vname v (202 + 11 * t + 5))
def zGr (M : zM) (r : Nat) (v : zV) (gn : Nat) (mn : Nat → Nat) : Prop := zTN M (r + 5) 21 10 gn ∧ ∀ g, g < gn → (∀ j, j < 7 → M.1 (r + 6) (g * 21 + j) = nI (v (268 + 23 * g + j))) ∧ M.1 (r + 6) (g * 21 + 7) = nI (vcost v g) ∧ M.1 (r + 6) (g * 21 + 9) = nI (vsh v g) ∧ (∀ s, s < mn g → M.1 (r + 6) (g * 21 + (10 + s)) = nI (v (268 + 23 * g + (7 + s)))) ∧ (∀ s, mn g ≤ s → s < vsh v g → M.1 (r + 6) (g * 21 + (10 + s)) = -1) ∧ M.1 (r + 6) (g * 21 + 20) = nI (vname v (268 + 23 * g + 17))
def zPa (M : zM) (r : Nat) (v : zV) : Prop := zTN M (r + 7) 5 40 (v 9) ∧ ∀ k, k < v 9 → ∀ j, j < 5 → M.1 (r + 8) (k * 5 + j) = nI (v (498 + 5 * k + j))
def zSk (M : zM) (r : Nat) (v : zV) : Prop := ∀ j, j < 6 → M.1 r (4 + j) = nI (v j)
def zRg (M : zM) (r : Nat) (v : zV) : Prop := zRi r ∧ zNo M r v (vcnt v (v 8)) ∧ zTe M r v ∧ zGr M r v (v 8) (vsh v) ∧ zPa M r v ∧ zSk M r v
theorem zNo.c0 {M : zM} {r n : Nat} {v : zV} {cn : Nat → Nat} (h : zNo M r v cn) (hn : n < v 6) : M.1 (r + 2) (n * 8 + 0) = nI (v (10 + 12 * n + 0)) := (h.2 n hn).1
theorem zNo.c1 {M : zM} {r n : Nat} {v : zV} {cn : Nat → Nat} (h : zNo M r v cn) (hn : n < v 6) : M.1 (r + 2) (n * 8 + 1) = nI (v (10 + 12 * n + 1)) := (h.2 n hn).2.1
theorem zNo.c2 {M : zM} {r n : Nat} {v : zV} {cn : Nat → Nat} (h : zNo M r v cn) (hn : n < v 6) : M.1 (r + 2) (n * 8 + 2) = nI (v (10 + 12 * n + 2)) := (h.2 n hn).2.2.1
theorem zNo.c3 {M : zM} {r n : Nat} {v : zV} {cn : Nat → Nat} (h : zNo M r v cn) (hn : n < v 6) : M.1 (r + 2) (n * 8 + 3) = nI (v (10 + 12 * n + 3)) := (h.2 n hn).2.2.2.1
theorem zNo.c4 {M : zM} {r n : Nat} {v : zV} {cn : Nat → Nat} (h : zNo M r v cn) (hn : n < v 6) : M.1 (r + 2) (n * 8 + 4) = nI (cn n) := (h.2 n hn).2.2.2.2.1
theorem zNo.c5 {M : zM} {r n : Nat} {v : zV} {cn : Nat → Nat} (h : zNo M r v cn) (hn : n < v 6) : M.1 (r + 2) (n * 8 + 5) = nI (v (10 + 12 * n + 4)) := (h.2 n hn).2.2.2.2.2.1
theorem zNo.c6 {M : zM} {r n : Nat} {v : zV} {cn : Nat → Nat} (h : zNo M r v cn) (hn : n < v 6) : M.1 (r + 2) (n * 8 + 6) = nI (v (10 + 12 * n + 5)) := (h.2 n hn).2.2.2.2.2.2.1
theorem zNo.c7 {M : zM} {r n : Nat} {v : zV} {cn : Nat → Nat} (h : zNo M r v cn) (hn : n < v 6) : M.1 (r + 2) (n * 8 + 7) = nI (vname v (10 + 12 * n + 6)) := (h.2 n hn).2.2.2.2.2.2.2
theorem zTe.c {M : zM} {r t j : Nat} {v : zV} (h : zTe M r v) (ht : t < v 7) (hj : j < 5) : M.1 (r + 4) (t * 6 + j) = nI (v (202 + 11 * t + j)) := (h.2 t ht).1 j hj
theorem zTe.nm {M : zM} {r t : Nat} {v : zV} (h : zTe M r v) (ht : t < v 7) : M.1 (r + 4) (t * 6 + 5) = nI (vname v (202 + 11 * t + 5)) := (h.2 t ht).2
theorem zGr.c {M : zM} {r g gn j : Nat} {v : zV} {mn : Nat → Nat} (h : zGr M r v gn mn) (hg : g < gn) (hj : j < 7) : M.1 (r + 6) (g * 21 + j) = nI (v (268 + 23 * g + j)) := (h.2 g hg).1 j hj
theorem zGr.co {M : zM} {r g gn : Nat} {v : zV} {mn : Nat → Nat} (h : zGr M r v gn mn) (hg : g < gn) : M.1 (r + 6) (g * 21 + 7) = nI (vcost v g) := (h.2 g hg).2.1
theorem zGr.n {M : zM} {r g gn : Nat} {v : zV} {mn : Nat → Nat} (h : zGr M r v gn mn) (hg : g < gn) : M.1 (r + 6) (g * 21 + 9) = nI (vsh v g) := (h.2 g hg).2.2.1
theorem zGr.sh {M : zM} {r g gn s : Nat} {v : zV} {mn : Nat → Nat} (h : zGr M r v gn mn) (hg : g < gn) (hs : s < mn g) : M.1 (r + 6) (g * 21 + (10 + s)) = nI (v (268 + 23 * g + (7 + s))) := (h.2 g hg).2.2.2.1 s hs
theorem zGr.un {M : zM} {r g gn s : Nat} {v : zV} {mn : Nat → Nat} (h : zGr M r v gn mn) (hg : g < gn) (hs : mn g ≤ s) (hs2 : s < vsh v g) : M.1 (r + 6) (g * 21 + (10 + s)) = -1 := (h.2 g hg).2.2.2.2.1 s hs hs2
theorem zGr.nm {M : zM} {r g gn : Nat} {v : zV} {mn : Nat → Nat} (h : zGr M r v gn mn) (hg : g < gn) : M.1 (r + 6) (g * 21 + 20) = nI (vname v (268 + 23 * g + 17)) := (h.2 g hg).2.2.2.2.2
theorem zPa.c {M : zM} {r k j : Nat} {v : zV} (h : zPa M r v) (hk : k < v 9) (hj : j < 5) : M.1 (r + 8) (k * 5 + j) = nI (v (498 + 5 * k + j)) := h.2 k hk j hj
theorem zTN.cg {M M' : zM} {k c cap n : Nat} (h : zTN M k c cap n) (e : M'.1 k = M.1 k) : zTN M' k c cap n := h.keep (by rw [e]) (by rw [e])
theorem zNo.cg {M M' : zM} {r : Nat} {v : zV} {cn : Nat → Nat} (h : zNo M r v cn) (e1 : M'.1 (r + 1) = M.1 (r + 1)) (e2 : M'.1 (r + 2) = M.1 (r + 2)) : zNo M' r v cn := ⟨h.1.cg e1, fun n hn => by rw [e2]; exact h.2 n hn⟩
theorem zTe.cg {M M' : zM} {r : Nat} {v : zV} (h : zTe M r v) (e1 : M'.1 (r + 3) = M.1 (r + 3)) (e2 : M'.1 (r + 4) = M.1 (r + 4)) : zTe M' r v := ⟨h.1.cg e1, fun n hn => by rw [e2]; exact h.2 n hn⟩
theorem zGr.cg {M M' : zM} {r gn : Nat} {v : zV} {mn : Nat → Nat} (h : zGr M r v gn mn) (e1 : M'.1 (r + 5) = M.1 (r + 5)) (e2 : M'.1 (r + 6) = M.1 (r + 6)) : zGr M' r v gn mn := ⟨h.1.cg e1, fun n hn => by rw [e2]; exact h.2 n hn⟩
theorem zPa.cg {M M' : zM} {r : Nat} {v : zV} (h : zPa M r v) (e1 : M'.1 (r + 7) = M.1 (r + 7)) (e2 : M'.1 (r + 8) = M.1 (r + 8)) : zPa M' r v := ⟨h.1.cg e1, fun n hn => by rw [e2]; exact h.2 n hn⟩
theorem zSk.cg {M M' : zM} {r : Nat} {v : zV} (h : zSk M r v) (e : M'.1 r = M.1 r) : zSk M' r v := fun j hj => by rw [e]; exact h j hj
theorem zRg.cg {M M' : zM} {r : Nat} {v : zV} (h : zRg M r v) (e : ∀ a, r ≤ a → a ≤ r + 8 → M'.1 a = M.1 a) : zRg M' r v := ⟨h.1, h.2.1.cg (e _ (by omega) (by omega)) (e _ (by omega) (by omega)), h.2.2.1.cg (e _ (by omega) (by omega)) (e _ (by omega) (by omega)), h.2.2.2.1.cg (e _ (by omega) (by omega)) (e _ (by omega) (by omega)), h.2.2.2.2.1.cg (e _ (by omega) (by omega)) (e _ (by omega) (by omega)), h.2.2.2.2.2.cg (e _ (by omega) (by omega))⟩
theorem zRg.i {M : zM} {r : Nat} {v : zV} (h : zRg M r v) : zRi r := h.1
theorem zRg.n {M : zM} {r : Nat} {v : zV} (h : zRg M r v) : zNo M r v (vcnt v (v 8)) := h.2.1
theorem zRg.t {M : zM} {r : Nat} {v : zV} (h : zRg M r v) : zTe M r v := h.2.2.1
theorem zRg.g {M : zM} {r : Nat} {v : zV} (h : zRg M r v) : zGr M r v (v 8) (vsh v) := h.2.2.2.1
theorem zRg.p {M : zM} {r : Nat} {v : zV} (h : zRg M r v) : zPa M r v := h.2.2.2.2.1
theorem zRg.s {M : zM} {r : Nat} {v : zV} (h : zRg M r v) : zSk M r v := h.2.2.2.2.2
/-! the JDK's two -/
def zpop (m : Nat) : Nat := zCnt 10 (fun i => m.testBit i)
def zbc (x : Int32) : Int32 :=
  let a := x - (((x.toUInt32 >>> (Int32.toUInt32 1 &&& Int32.toUInt32 31)).toInt32) &&& 1431655765)
  let b := (a &&& 858993459) + (((a.toUInt32 >>> (Int32.toUInt32 2 &&& Int32.toUInt32 31)).toInt32) &&& 858993459)
  let c := (b + (b.toUInt32 >>> (Int32.toUInt32 4 &&& Int32.toUInt32 31)).toInt32) &&& 252645135
  let d := c + (c.toUInt32 >>> (Int32.toUInt32 8 &&& Int32.toUInt32 31)).toInt32
  let e := d + (d.toUInt32 >>> (Int32.toUInt32 16 &&& Int32.toUInt32 31)).toInt32
  e &&& 63
theorem zbc_at : ∀ m, m < 1024 → zbc (nI m) = nI (zpop m) := by decide +kernel
theorem zlow_at : ∀ m, m < 1024 → m ≠ 0 → zbc ((nI m &&& (-(nI m))) - 1) = nI (zFst 10 (fun i => m.testBit i)) := by decide +kernel
theorem zpop_mask {n : Nat} {p : Nat → Bool} (h : n ≤ 10) : zpop (zMask n p) = zCnt n p := zCnt_mask h
theorem zfst_mask {n : Nat} {p : Nat → Bool} (h : n ≤ 10) (hx : zFst n p < n) : zFst 10 (fun i => (zMask n p).testBit i) = zFst n p := zFst_eq (by omega) (by rw [zMask_bit, zFst_lt hx]; simp [hx]) (fun i hi => by rw [zMask_bit, zFst_min hi (by omega)]; simp)
