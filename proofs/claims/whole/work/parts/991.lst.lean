/-! THE LAW'S STATE: of the class and of the reference -/
abbrev zLS : Type := (zV × Nat × (Nat → zV)) × (Nat × (Nat → Nat)) × (Nat × (Nat → Nat)) × (Nat × Nat)
def zIc (M : zM) (S : zLS) : Prop := zCl M S.1.1 ∧ zUd M S.1.2.1 S.1.2.2 ∧ zBy M 100 S.2.1.1 S.2.1.2 ∧ zBy M 102 S.2.2.1.1 S.2.2.1.2 ∧ M.1 104 2 = nI S.2.2.2.1 ∧ (S.2.2.2.1 ≠ 0 → M.1 104 3 = nI S.2.2.2.2) ∧ zRz M
def zIm (M : zM) (S : zLS) : Prop := zRA M 119 S.1.1 ∧ M.1 118 4 = nI 0 ∧ zMu M S.1.2.1 S.1.2.2 ∧ M.1 118 17 = nI S.2.1.1 ∧ zBf M 129 S.2.1.1 S.2.1.2 ∧ M.1 118 23 = nI S.2.2.2.1 ∧ M.1 118 24 = (if S.2.2.2.1 = 0 then -1 else nI S.2.2.2.2) ∧ zMo M S.2.2.1
def zIp (S : zLS) : Prop := zWF S.1.1 ∧ zNmS S.1.1 ∧ S.1.2.1 ≤ 8 ∧ (∀ i, i < S.1.2.1 → zWF (S.1.2.2 i) ∧ zNmS (S.1.2.2 i)) ∧ S.2.1.1 ≤ 1400 ∧ S.2.2.1.1 ≤ 200 ∧ zCh S.2.2.1 ∧ S.2.2.2.1 ≤ 5
def zI (M : zM) (S : zLS) : Prop := zIc M S ∧ zIm M S ∧ zIp S
def zFrC (M M' : zM) : Prop := (∀ a, 118 ≤ a → M'.1 a = M.1 a) ∧ M'.2.2.2 = M.2.2.2
def zFrM (M M' : zM) : Prop := (∀ a, a < 118 → M'.1 a = M.1 a) ∧ M'.2.1 131 = M.2.1 131 ∧ M'.2.2.1 = M.2.2.1
theorem zIc.fr {M M' : zM} {S : zLS} (h : zIc M S) (e : ∀ a, a < 118 → M'.1 a = M.1 a) : zIc M' S := by
  obtain ⟨⟨hR, hf, ho, ho2⟩, hU, hB, hO, hc, hp, hZ⟩ := h
  exact ⟨⟨hR.cg (fun a _ h2 => e a (by omega)), hf.cg (fun a h1 h2 => e a (by omega)), ho.cg (e _ (by decide)), ho2.cg (e _ (by decide))⟩, hU.cg (fun a h1 => e a (by omega)), hB.cg (e _ (by decide)) (e _ (by decide)), hO.cg (e _ (by decide)) (e _ (by decide)), by rw [e _ (by decide)]; exact hc, fun q => by rw [e _ (by decide)]; exact hp q, hZ.cg (fun a h1 h2 => e a (by omega))⟩
theorem zMo.cg {M M' : zM} {s : Nat × (Nat → Nat)} (h : zMo M s) (e : M'.1 118 29 = M.1 118 29) (e1 : M'.1 130 = M.1 130) : zMo M' s := ⟨by rw [e]; exact h.1, h.2.cg e1⟩
theorem zMu.cg {M M' : zM} {un : Nat} {uv : Nat → zV} (h : zMu M un uv) (e : M'.1 118 27 = M.1 118 27) (e1 : M'.1 128 = M.1 128) : zMu M' un uv := ⟨h.1, by rw [e]; exact h.2.1, fun i hi j hj => by rw [e1]; exact h.2.2 i hi j hj⟩
theorem zIm.cg {M M' : zM} {S : zLS} (h : zIm M S) (e : ∀ j, j = 4 ∨ j = 17 ∨ j = 23 ∨ j = 24 ∨ j = 27 ∨ j = 29 → M'.1 118 j = M.1 118 j) (e9 : ∀ j, j < 698 → M'.1 119 j = M.1 119 j) (e1 : M'.1 128 = M.1 128) (e2 : M'.1 129 = M.1 129) (e3 : M'.1 130 = M.1 130) (en : M'.2.2.2 = M.2.2.2) : zIm M' S := by
  obtain ⟨hA, hd, hU, h17, hB, h23, h24, hO⟩ := h
  exact ⟨⟨by rw [en]; exact hA.1, hA.2.1, fun j hj => by rw [e9 j hj]; exact hA.2.2 j hj⟩, by rw [e 4 (by decide)]; exact hd, hU.cg (e 27 (by decide)) e1, by rw [e 17 (by decide)]; exact h17, hB.cg e2, by rw [e 23 (by decide)]; exact h23, by rw [e 24 (by decide)]; exact h24, hO.cg (e 29 (by decide)) e3⟩
theorem zIm.fr {M M' : zM} {S : zLS} (h : zIm M S) (f : zFrC M M') : zIm M' S := h.cg (fun j _ => by rw [f.1 118 (by decide)]) (fun j _ => by rw [f.1 119 (by decide)]) (f.1 128 (by decide)) (f.1 129 (by decide)) (f.1 130 (by decide)) f.2
theorem zIc.frM {M M' : zM} {S : zLS} (h : zIc M S) (f : zFrM M M') : zIc M' S := h.fr f.1
theorem zFrC.rf {M : zM} : zFrC M M := ⟨fun _ _ => rfl, rfl⟩
theorem zFrC.out {M M' : zM} {x : Int64} (h : zFrC M M') : zFrC M (M'.1, zU M'.2.1 131 0 x, M'.2.2) := h
theorem zFrC.outD {M M' : zM} {x : UInt64} (h : zFrC M M') : zFrC M (M'.1, M'.2.1, zU M'.2.2.1 132 0 x, M'.2.2.2) := h
theorem zIc.out {M : zM} {S : zLS} {x : Int64} (h : zIc M S) : zIc (M.1, zU M.2.1 131 0 x, M.2.2) S := h.fr (fun _ _ => rfl)
theorem zIc.outD {M : zM} {S : zLS} {x : UInt64} (h : zIc M S) : zIc (M.1, M.2.1, zU M.2.2.1 132 0 x, M.2.2.2) S := h.fr (fun _ _ => rfl)
/-! the class's calls -/
theorem zQn.fC {M M' : zM} (h : zQn M M') : zFrC M M' := ⟨fun a h1 => h.1 a (by omega) (by omega), by rw [h.2.2.1]⟩
theorem zMn.fC {M M' : zM} (h : zMn M M') : zFrC M M' := ⟨fun a h1 => h.1 a (by omega) (by omega) (by omega), by rw [h.2.2]⟩
theorem zOf.fC {M M' : zM} (h : zOf 100 M M') : zFrC M M' := ⟨fun a h1 => h.1 a (by omega) (by omega), by rw [h.2]⟩
theorem zWo.fC {M M' : zM} (h : zWo M M') : zFrC M M' := ⟨fun a h1 => h.1 a (by omega) (by omega) (by omega), by rw [h.2.2]⟩
theorem zLc.fC {M M' : zM} (h : zLc M M') : zFrC M M' := ⟨fun a h1 => h.1 a (by omega) (by omega) (by omega) (by omega), by rw [h.2]⟩
theorem zIc.q {M M' : zM} {S : zLS} (h : zIc M S) (hq : zQn M M') : zIc M' S := by
  obtain ⟨hC, hU, hB, hO, hc, hp, hZ⟩ := h
  have e : ∀ a, ¬ (18 ≤ a ∧ a ≤ 26) → ¬ (105 ≤ a ∧ a ≤ 115) → M'.1 a = M.1 a := hq.1
  exact ⟨hq.cl hC, hU.cg (fun a h1 => e a (by omega) (by omega)), hB.cg (e _ (by decide) (by decide)) (e _ (by decide) (by decide)), hO.cg (e _ (by decide) (by decide)) (e _ (by decide) (by decide)), by rw [e _ (by decide) (by decide)]; exact hc, fun q => by rw [e _ (by decide) (by decide)]; exact hp q, hZ.cg (fun a h1 h2 => e a (by omega) (by omega))⟩
theorem zIc.m {M M' : zM} {S : zLS} {u : zV × Nat × (Nat → zV)} (h : zIc M S) (hm : zMn M M') (hC : zCl M' u.1) (hU : zUd M' u.2.1 u.2.2) : zIc M' (u, S.2) := by
  obtain ⟨-, -, hB, hO, hc, hp, hZ⟩ := h
  have e : ∀ a, ¬ a ≤ 8 → ¬ (18 ≤ a ∧ a ≤ 98) → ¬ (105 ≤ a ∧ a ≤ 116) → M'.1 a = M.1 a := hm.1
  exact ⟨hC, hU, hB.cg (e _ (by decide) (by decide) (by decide)) (e _ (by decide) (by decide) (by decide)), hO.cg (e _ (by decide) (by decide) (by decide)) (e _ (by decide) (by decide) (by decide)), by rw [e _ (by decide) (by decide) (by decide)]; exact hc, fun q => by rw [e _ (by decide) (by decide) (by decide)]; exact hp q, hZ.cg (fun a h1 h2 => e a (by omega) (by omega) (by omega))⟩
theorem zIc.b {M M' : zM} {S : zLS} {n : Nat} {B : Nat → Nat} (h : zIc M S) (hf : zOf 100 M M') (hB : zBy M' 100 n B) : zIc M' (S.1, (n, B), S.2.2) := by
  obtain ⟨⟨hR, hf9, ho, ho2⟩, hU, -, hO, hc, hp, hZ⟩ := h
  have e : ∀ a, a ≠ 100 → a ≠ 101 → M'.1 a = M.1 a := hf.1
  exact ⟨⟨hR.cg (fun a _ h2 => e a (by omega) (by omega)), hf9.cg (fun a h1 h2 => e a (by omega) (by omega)), ho.cg (e _ (by decide) (by decide)), ho2.cg (e _ (by decide) (by decide))⟩, hU.cg (fun a h1 => e a (by omega) (by omega)), hB, hO.cg (e _ (by decide) (by decide)) (e _ (by decide) (by decide)), by rw [e _ (by decide) (by decide)]; exact hc, fun q => by rw [e _ (by decide) (by decide)]; exact hp q, hZ.cg (fun a h1 h2 => e a (by omega) (by omega))⟩
theorem zIc.w {M M' : zM} {S : zLS} {o : Nat × (Nat → Nat)} (h : zIc M S) (hf : zWo M M') (hC : zCl M' S.1.1) (hO : zBy M' 102 o.1 o.2) : zIc M' (S.1, S.2.1, o, S.2.2.2) := by
  obtain ⟨-, hU, hB, -, hc, hp, hZ⟩ := h
  have e : ∀ a, ¬ (105 ≤ a ∧ a ≤ 109) → a ≠ 102 → a ≠ 103 → M'.1 a = M.1 a := hf.1
  exact ⟨hC, hU.cg (fun a h1 => e a (by omega) (by omega) (by omega)), hB.cg (e _ (by decide) (by decide) (by decide)) (e _ (by decide) (by decide) (by decide)), hO, by rw [e _ (by decide) (by decide) (by decide)]; exact hc, fun q => by rw [e _ (by decide) (by decide) (by decide)]; exact hp q, hZ.cg (fun a h1 h2 => e a (by omega) (by omega) (by omega))⟩
theorem zIc.l {M M' : zM} {S : zLS} {u : zV × Nat × (Nat → zV)} {B : Nat → Nat} {c p : Nat} (h : zIc M S) (hl : zLc M M') (hC : zCl M' u.1) (hU : zUd M' u.2.1 u.2.2) (hB : zBy M' 100 0 B) (hZ : zRz M') (hc : M'.1 104 2 = nI c) (hp : c ≠ 0 → M'.1 104 3 = nI p) : zIc M' (u, (0, B), S.2.2.1, (c, p)) := by
  obtain ⟨-, -, -, hO, -, -, -⟩ := h
  exact ⟨hC, hU, hB, hO.cg (hl.1 _ (by decide) (by decide) (by decide) (by decide)) (hl.1 _ (by decide) (by decide) (by decide) (by decide)), hc, hp, hZ⟩
/-! the reference's calls -/
theorem zQm.fM {M M' : zM} (h : zQm M M') : zFrM M M' := ⟨fun a h1 => funext fun j => h.1 a j (by
  unfold zQmI zSrI
  simp only [Bool.or_eq_false_iff, Bool.and_eq_false_iff, decide_eq_false_iff_not, beq_eq_false_iff_ne]
  omega), funext fun j => h.2.1 131 j (by decide) (by omega), by rw [h.2.2]⟩
theorem zMm.fM {M M' : zM} (h : zMm M M') : zFrM M M' := ⟨fun a h1 => funext fun j => h.1 a j (by
  unfold zMmI zQmI zSrI
  simp only [Bool.or_eq_false_iff, Bool.and_eq_false_iff, decide_eq_false_iff_not, beq_eq_false_iff_ne]
  omega), funext fun j => h.2.1 131 j (by decide) (by omega), by rw [h.2.2]⟩
theorem zGc.fM {S : Nat → Bool} {M M' : zM} (h : zGc S M M') : zFrM M M' := ⟨fun a h1 => h.1 a (by omega) (by omega), by rw [h.2.1], by rw [h.2.1]⟩
theorem zGw.fM {M M' : zM} (h : zGw M M') : zFrM M M' := ⟨fun a h1 => funext fun j => h.1 a j (by
  unfold zGwI zSrI
  simp only [Bool.or_eq_false_iff, Bool.and_eq_false_iff, decide_eq_false_iff_not, beq_eq_false_iff_ne]
  omega), h.2.1 131 (by decide), by rw [h.2.2]⟩
theorem zLm.fM {M M' : zM} (h : zLm M M') : zFrM M M' := ⟨fun a h1 => h.1 a (by omega) (by omega) (by omega) (by omega), by rw [h.2.1], h.2.2.1⟩
theorem zIm.q {M M' : zM} {S : zLS} (h : zIm M S) (hq : zQm M M') : zIm M' S := by
  have e : ∀ a j, zQmI a j = false → M'.1 a j = M.1 a j := hq.1
  refine h.cg (fun j hj => e 118 j ?_) (fun j hj => e 119 j ?_) (funext fun j => e 128 j rfl) (funext fun j => e 129 j rfl) (funext fun j => e 130 j rfl) (by rw [hq.2.2])
  · rcases hj with rfl | rfl | rfl | rfl | rfl | rfl <;> rfl
  · unfold zQmI zSrI
    simp only [Bool.or_eq_false_iff, Bool.and_eq_false_iff, decide_eq_false_iff_not, beq_eq_false_iff_ne]
    omega
theorem zIm.m {M M' : zM} {S : zLS} {u : zV × Nat × (Nat → zV)} (h : zIm M S) (hm : zMm M M') (hA : zRA M' 119 u.1) (hU : zMu M' u.2.1 u.2.2) : zIm M' (u, S.2) := by
  obtain ⟨-, hd, -, h17, hB, h23, h24, hO⟩ := h
  have e : ∀ a j, zMmI a j = false → M'.1 a j = M.1 a j := hm.1
  exact ⟨hA, by rw [e 118 4 rfl]; exact hd, hU, by rw [e 118 17 rfl]; exact h17, hB.cg (funext fun j => e 129 j rfl), by rw [e 118 23 rfl]; exact h23, by rw [e 118 24 rfl]; exact h24, hO.cg (e 118 29 rfl) (funext fun j => e 130 j rfl)⟩
theorem zIm.b {M M' : zM} {S : zLS} {n : Nat} {B : Nat → Nat} (h : zIm M S) (hf : zGb M M') (h17 : M'.1 118 17 = nI n) (hB : zBf M' 129 n B) : zIm M' (S.1, (n, B), S.2.2) := by
  obtain ⟨hA, hd, hU, -, -, h23, h24, hO⟩ := h
  exact ⟨hf.ra hA, by rw [hf.2.2 4 rfl]; exact hd, hU.cg (hf.2.2 27 rfl) (hf.1 128 (by decide) (by decide)), h17, hB, by rw [hf.2.2 23 rfl]; exact h23, by rw [hf.2.2 24 rfl]; exact h24, hO.cg (hf.2.2 29 rfl) (hf.1 130 (by decide) (by decide))⟩
theorem zIm.w {M M' : zM} {S : zLS} {o : Nat × (Nat → Nat)} (h : zIm M S) (hf : zGw M M') (hO : zMo M' o) : zIm M' (S.1, S.2.1, o, S.2.2.2) := by
  obtain ⟨hA, hd, hU, h17, hB, h23, h24, -⟩ := h
  have e : ∀ a j, zGwI a j = false → M'.1 a j = M.1 a j := hf.1
  exact ⟨⟨by rw [hf.2.2]; exact hA.1, hA.2.1, fun j hj => by rw [e 119 j rfl]; exact hA.2.2 j hj⟩, by rw [e 118 4 rfl]; exact hd, hU.cg (e 118 27 rfl) (funext fun j => e 128 j rfl), by rw [e 118 17 rfl]; exact h17, hB.cg (funext fun j => e 129 j rfl), by rw [e 118 23 rfl]; exact h23, by rw [e 118 24 rfl]; exact h24, hO⟩
theorem zIm.l {M M' : zM} {S : zLS} {u : zV × Nat × (Nat → zV)} {B : Nat → Nat} {c p : Nat} (h : zIm M S) (hl : zLm M M') (h17 : M'.1 118 17 = nI 0) (h4 : M'.1 118 4 = nI 0) (h23 : M'.1 118 23 = nI c) (h24 : c ≠ 0 → M'.1 118 24 = nI p) (h240 : c = 0 → M'.1 118 24 = -1) (hA : zRA M' 119 u.1) (hU : zMu M' u.2.1 u.2.2) : zIm M' (u, (0, B), S.2.2.1, (c, p)) := by
  obtain ⟨-, -, -, -, -, -, -, hO⟩ := h
  refine ⟨hA, h4, hU, h17, fun j hj => absurd hj (Nat.not_lt_zero j), h23, ?_, hO.cg (hl.2.2.2 29 (by decide)) (hl.1 130 (by decide) (by decide) (by decide) (by decide))⟩
  show M'.1 118 24 = if c = 0 then -1 else nI p
  by_cases q : c = 0
  · rw [if_pos q]; exact h240 q
  · rw [if_neg q]; exact h24 q
/-! small rules -/
section Z991
variable {G : zGx} {y : MethodName} {cc : ByteArray} {nL : Nat} {ret : Option FieldType} {R : Room} {Q : Option Value → zM → Prop} {X : String → zM → Prop} {a b pc n : Nat} {l t : List (Option Value)} {st : List Value} {M : zM}
theorem zj_keepG (bs : List Bool) (k : zJG G y cc nL ret R Q X a b pc (zKeep bs l) st M) : zJG G y cc nL ret R Q X a b pc l st M := zj_sub (zKeep_le bs l) k
theorem zj_laloadW {k j : Nat} {x : Int64} (hn : pc + 1 = n) (hd : decode cc pc = .ok (.laload, 1)) (hk : k < 133) (ht : zTy k = 22) (hj : j < zLen k) (he : M.2.1 k j = x) (k9 : zJG G y cc nL ret R Q X a b n l (.long x :: st) M) : zJG G y cc nL ret R Q X a b pc l (.int (nI j) :: .ref k :: st) M := zj_laload hn hd hk ht (vp_in_nI hj (zLen_lt7 k)) (by rw [nI_clamp (Nat.lt_trans hj (zLen_lt7 k)), he]; exact k9)
theorem zj_daloadW {k j : Nat} {x : UInt64} (hn : pc + 1 = n) (hd : decode cc pc = .ok (.daload, 1)) (hk : k < 133) (ht : zTy k = 23) (hj : j < zLen k) (he : M.2.2.1 k j = x) (k9 : zJG G y cc nL ret R Q X a b n l (.double x :: st) M) : zJG G y cc nL ret R Q X a b pc l (.int (nI j) :: .ref k :: st) M := zj_daload hn hd hk ht (vp_in_nI hj (zLen_lt7 k)) (by rw [nI_clamp (Nat.lt_trans hj (zLen_lt7 k)), he]; exact k9)
theorem zj_dastoreN {k j : Nat} {x : UInt64} (hn : pc + 1 = n) (hd : decode cc pc = .ok (.dastore, 1)) (hk : k < 133) (ht : zTy k = 23) (hj : j < zLen k) (k9 : zJG G y cc nL ret R Q X a b n l st (M.1, M.2.1, zU M.2.2.1 k j x, M.2.2.2)) : zJG G y cc nL ret R Q X a b pc l (.double x :: .int (nI j) :: .ref k :: st) M := zj_dastore hn hd hk ht (vp_in_nI hj (zLen_lt7 k)) (by rw [nI_clamp (Nat.lt_trans hj (zLen_lt7 k))]; exact k9)
theorem lg_cmp_eq (x : Int64) : lg_cmp x x = nI 0 := by unfold lg_cmp; simp
theorem zj_lcmpE {x : Int64} (hn : pc + 1 = n) (hd : decode cc pc = .ok (.lcmp, 1)) (k : zJG G y cc nL ret R Q X a b n l (.int (nI 0) :: st) M) : zJG G y cc nL ret R Q X a b pc l (.long x :: .long x :: st) M := zj_lcmp hn hd (by rw [lg_cmp_eq]; exact k)
theorem zj_sldN {L j : Nat} {xs : Nat → Int32} (hL : L ≤ 3072) (hn : pc + 1 = n) (hd : decode cc pc = .ok (.iaload, 1)) (hj : j < L) (k : zJG (zGL L xs) y cc nL ret R Q X a b n l (.int (xs j) :: st) M) : zJG (zGL L xs) y cc nL ret R Q X a b pc l (.int (nI j) :: .ref 800 :: st) M := zj_sld hn hd (vp_in_nI hj (by omega)) (by rw [nI_clamp (by omega)]; exact k)
theorem jX10_thrownN {e : Nat} (he : M.1 118 0 = nI e) (h : Q (some (.int (nI e))) M) : zJ yX10_thrown cX10_thrown 1 (some .int) rX10_thrown Q X rX10_thrown.cells rX10_thrown.slots 0 (zEnt 1 [.ref 118]) [] M := jX10_thrown (by rw [he]; exact h)
end Z991
