/-! THE LAW'S STATE: of the class and of the reference -/
abbrev zLS : Type := (zV × Nat × (Nat → zV)) × (Nat × (Nat → Nat)) × (Nat × (Nat → Nat)) × (Nat × Nat)
def zIc (M : zM) (S : zLS) : Prop := zCl M S.1.1 ∧ zUd M S.1.2.1 S.1.2.2 ∧ zBy M 100 S.2.1.1 S.2.1.2 ∧ zBy M 102 S.2.2.1.1 S.2.2.1.2 ∧ M.1 104 2 = nI S.2.2.2.1 ∧ (S.2.2.2.1 ≠ 0 → M.1 104 3 = nI S.2.2.2.2) ∧ zRz M
def zIm (M : zM) (S : zLS) : Prop := zRA M 119 S.1.1 ∧ M.1 118 4 = nI 0 ∧ zMu M S.1.2.1 S.1.2.2 ∧ M.1 118 17 = nI S.2.1.1 ∧ zBf M 129 S.2.1.1 S.2.1.2 ∧ M.1 118 23 = nI S.2.2.2.1 ∧ M.1 118 24 = (if S.2.2.2.1 = 0 then -1 else nI S.2.2.2.2) ∧ zMo M S.2.2.1
def zIp (S : zLS) : Prop := zWF S.1.1 ∧ zNmS S.1.1 ∧ S.1.2.1 ≤ 8 ∧ (∀ i, i < S.1.2.1 → zWF (S.1.2.2 i) ∧ zNmS (S.1.2.2 i)) ∧ S.2.1.1 ≤ 1400 ∧ S.2.2.1.1 ≤ 200 ∧ zCh S.2.2.1 ∧ S.2.2.2.1 ≤ 5
def zI (M : zM) (S : zLS) : Prop := zIc M S ∧ zIm M S ∧ zIp S
def zFrC (M M' : zM) : Prop := (∀ a, 118 ≤ a → M'.1 a = M.1 a) ∧ M'.2.2.2 = M.2.2.2
def zFrM (M M' : zM) : Prop := (∀ a, a < 118 → M'.1 a = M.1 a) ∧ M'.2.1 131 = M.2.1 131 ∧ M'.2.2.1 = M.2.2.1
theorem zIc.fr {M M' : zM} {S : zLS} (h : zIc M S) (e : ∀ a, a < 118 → M'.1 a = M.1 a) : zIc M' S := by
  obtain ⟨⟨hR, hf, ho, ho2⟩, hU, hB, hO, hc, hp, hZ⟩ := h
  exact ⟨⟨hR.cg (fun a _ h2 => e a (by omega)), hf.cg (fun a h1 h2 => e a (by omega)), ho.cg (e _ (by decide)), ho2.cg (e _ (by decide))⟩, hU.cg (fun a h1 => e a (by omega)), hB.cg (e _ (by decide)) (e _ (by decide)), hO.cg (e _ (by decide)) (e _ (by decide)), by rw [e _ (by decide)]; exact hc, fun q => by rw [e _ (by decide)]; exact hp q, hZ.cg (fun a h1 h2 => e a (by omega))⟩
theorem zMo.cg {M M' : zM} {s : Nat × (Nat → Nat)} (h : zMo M s) (e : M'.1 118 29 = M.1 118 29) (e1 : M'.1 130 = M.1 130) : zMo M' s := ⟨by rw [e]; exact h.1, h.2.cg e1⟩
theorem zMu.cg {M M' : zM} {un : Nat} {uv : Nat → zV} (h : zMu M un uv) (e : M'.1 118 27 = M.1 118 27) (e1 : M'.1 128 = M.1 128) : zMu M' un uv := ⟨h.1, by rw [e]; exact h.2.1, fun i hi j hj => by rw [e1]; exact h.2.2 i hi j hj⟩
theorem zIm.cg {M M' : zM} {S : zLS} (h : zIm M S) (e : ∀ j, j = 4 ∨ j = 17 ∨ j = 23 ∨ j = 24 ∨ j = 27 ∨ j = 29 → M'.1 118 j = M.1 118 j) (e9 : ∀ j, j < 698 → M'.1 119 j = M.1 119 j) (e1 : M'.1 128 = M.1 128) (e2 : M'.1 129 = M.1 129) (e3 : M'.1 130 = M.1 130) (en : M'.2.2.2 = M.2.2.2) : zIm M' S := by
  obtain ⟨hA, hd, hU, h17, hB, h23, h24, hO⟩ := h
  exact ⟨⟨by rw [en]; exact hA.1, hA.2.1, fun j hj => by rw [e9 j hj]; exact hA.2.2 j hj⟩, by rw [e 4 (by decide)]; exact hd, hU.cg (e 27 (by decide)) e1, by rw [e 17 (by decide)]; exact h17, hB.cg e2, by rw [e 23 (by decide)]; exact h23, by rw [e 24 (by decide)]; exact h24, hO.cg (e 29 (by decide)) e3⟩
theorem zIm.fr {M M' : zM} {S : zLS} (h : zIm M S) (f : zFrC M M') : zIm M' S := h.cg (fun j _ => by rw [f.1 118 (by decide)]) (fun j _ => by rw [f.1 119 (by decide)]) (f.1 128 (by decide)) (f.1 129 (by decide)) (f.1 130 (by decide)) f.2
theorem zIc.frM {M M' : zM} {S : zLS} (h : zIc M S) (f : zFrM M M') : zIc M' S := h.fr f.1
theorem zFrC.rf {M : zM} : zFrC M M := ⟨fun _ _ => rfl, rfl⟩
theorem zFrC.out {M M' : zM} {x : Int64} (h : zFrC M M') : zFrC M (M'.1, zU M'.2.1 131 0 x, M'.2.2) := h
theorem zFrC.outD {M M' : zM} {x : UInt64} (h : zFrC M M') : zFrC M (M'.1, M'.2.1, zU M'.2.2.1 132 0 x, M'.2.2.2) := h
theorem zIc.out {M : zM} {S : zLS} {x : Int64} (h : zIc M S) : zIc (M.1, zU M.2.1 131 0 x, M.2.2) S := h.fr (fun _ _ => rfl)
theorem zIc.outD {M : zM} {S : zLS} {x : UInt64} (h : zIc M S) : zIc (M.1, M.2.1, zU M.2.2.1 132 0 x, M.2.2.2) S := h.fr (fun _ _ => rfl)
/-! the class's calls -/
theorem zQn.fC {M M' : zM} (h : zQn M M') : zFrC M M' := ⟨fun a h1 => h.1 a (by omega) (by omega), by rw [h.2.2.1]⟩
theorem zMn.fC {M M' : zM} (h : zMn M M') : zFrC M M' := ⟨fun a h1 => h.1 a (by omega) (by omega) (by omega), by rw [h.2.2]⟩
theorem zOf.fC {M M' : zM} (h : zOf 100 M M') : zFrC M M' := ⟨fun a h1 => h.1 a (by omega) (by omega), by rw [h.2]⟩
theorem zWo.fC {M M' : zM} (h : zWo M M') : zFrC M M' := ⟨fun a h1 => h.1 a (by omega) (by omega) (by omega), by rw [h.2.2]⟩
theorem zLc.fC {M M' : zM} (h : zLc M M') : zFrC M M' := ⟨fun a h1 => h.1 a (by omega) (by omega) (by omega) (by omega), by rw [h.2]⟩
theorem zIc.q {M M' : zM} {S : zLS} (h : zIc M S) (hq : zQn M M') : zIc M' S := by
  obtain ⟨hC, hU, hB, hO, hc, hp, hZ⟩ := h
  have e : ∀ a, ¬ (18 ≤ a ∧ a ≤ 26) → ¬ (105 ≤ a ∧ a ≤ 115) → M'.1 a = M.1 a := hq.1
  exact ⟨hq.cl hC, hU.cg (fun a h1 => e a (by omega) (by omega)), hB.cg (e _ (by decide) (by decide)) (e _ (by decide) (by decide)), hO.cg (e _ (by decide) (by decide)) (e _ (by decide) (by decide)), by rw [e _ (by decide) (by decide)]; exact hc, fun q => by rw [e _ (by decide) (by decide)]; exact hp q, hZ.cg (fun a h1 h2 => e a (by omega) (by omega))⟩
theorem zIc.m {M M' : zM} {S : zLS} {u : zV × Nat × (Nat → zV)} (h : zIc M S) (hm : zMn M M') (hC : zCl M' u.1) (hU : zUd M' u.2.1 u.2.2) : zIc M' (u, S.2) := by
  obtain ⟨-, -, hB, hO, hc, hp, hZ⟩ := h
  have e : ∀ a, ¬ a ≤ 8 → ¬ (18 ≤ a ∧ a ≤ 98) → ¬ (105 ≤ a ∧ a ≤ 116) → M'.1 a = M.1 a := hm.1
  exact ⟨hC, hU, hB.cg (e _ (by decide) (by decide) (by decide)) (e _ (by decide) (by decide) (by decide)), hO.cg (e _ (by decide) (by decide) (by decide)) (e _ (by decide) (by decide) (by decide)), by rw [e _ (by decide) (by decide) (by decide)]; exact hc, fun q => by rw [e _ (by decide) (by decide) (by decide)]; exact hp q, hZ.cg (fun a h1 h2 => e a (by omega) (by omega) (by omega))⟩
theorem zIc.b {M M' : zM} {S : zLS} {n : Nat} {B : Nat → Nat} (h : zIc M S) (hf : zOf 100 M M') (hB : zBy M' 100 n B) : zIc M' (S.1, (n, B), S.2.2) := by
  obtain ⟨⟨hR, hf9, ho, ho2⟩, hU, -, hO, hc, hp, hZ⟩ := h
  have e : ∀ a, a ≠ 100 → a ≠ 101 → M'.1 a = M.1 a := hf.1
  exact ⟨⟨hR.cg (fun a _ h2 => e a (by omega) (by omega)), hf9.cg (fun a h1 h2 => e a (by omega) (by omega)), ho.cg (e _ (by decide) (by decide)), ho2.cg (e _ (by decide) (by decide))⟩, hU.cg (fun a h1 => e a (by omega) (by omega)), hB, hO.cg (e _ (by decide) (by decide)) (e _ (by decide) (by decide)), by rw [e _ (by decide) (by decide)]; exact hc, fun q => by rw [e _ (by decide) (by decide)]; exact hp q, hZ.cg (fun a h1 h2 => e a (by omega) (by omega))⟩
theorem zIc.w {M M' : zM} {S : zLS} {o : Nat × (Nat → Nat)} (h : zIc M S) (hf : zWo M M') (hC : zCl M' S.1.1) (hO : zBy M' 102 o.1 o.2) : zIc M' (S.1, S.2.1, o, S.2.2.2) := by
  obtain ⟨-, hU, hB, -, hc, hp, hZ⟩ := h
  have e : ∀ a, ¬ (105 ≤ a ∧ a ≤ 109) → a ≠ 102 → a ≠ 103 → M'.1 a = M.1 a := hf.1
  exact ⟨hC, hU.cg (fun a h1 => e a (by omega) (by omega) (by omega)), hB.cg (e _ (by decide) (by decide) (by decide)) (e _ (by decide) (by decide) (by decide)), hO, by rw [e _ (by decide) (by decide) (by decide)]; exact hc, fun q => by rw [e _ (by decide) (by decide) (by decide)]; exact hp q, hZ.cg (fun a h1 h2 => e a (by omega) (by omega) (by omega))⟩
theorem zIc.l {M M' : zM} {S : zLS} {u : zV × Nat × (Nat → zV)} {B : Nat → Nat} {c p : Nat} (h : zIc M S) (hl : zLc M M') (hC : zCl M' u.1) (hU : zUd M' u.2.1 u.2.2) (hB : zBy M' 100 0 B) (hZ : zRz M') (hc : M'.1 104 2 = nI c) (hp : c ≠ 0 → M'.1 104 3 = nI p) : zIc M' (u, (0, B), S.2.2.1, (c, p)) := by
  obtain ⟨-, -, -, hO, -, -, -⟩ := h
  exact ⟨hC, hU, hB, hO.cg (hl.1 _ (by decide) (by decide) (by decide) (by decide)) (hl.1 _ (by decide) (by decide) (by decide) (by decide)), hc, hp, hZ⟩
/-! the reference's calls -/
theorem zQm.fM {M M' : zM} (h : zQm M M') : zFrM M M' := ⟨fun a h1 => funext fun j => h.1 a j (by
  unfold zQmI zSrI
  simp only [Bool.or_eq_false_iff, Bool.and_eq_false_iff, decide_eq_false_iff_not, beq_eq_false_iff_ne]
  omega), funext fun j => h.2.1 131 j (by decide) (by omega), by rw [h.2.2]⟩
theorem zMm.fM {M M' : zM} (h : zMm M M') : zFrM M M' := ⟨fun a h1 => funext fun j => h.1 a j (by
  unfold zMmI zQmI zSrI
  simp only [Bool.or_eq_false_iff, Bool.and_eq_false_iff, decide_eq_false_iff_not, beq_eq_false_iff_ne]
  omega), funext fun j => h.2.1 131 j (by decide) (by omega), by rw [h.2.2]⟩
theorem zGc.fM {S : Nat → Bool} {M M' : zM} (h : zGc S M M') : zFrM M M' := ⟨fun a h1 => h.1 a (by omega) (by omega), by rw [h.2.1], by rw [h.2.1]⟩
theorem zGw.fM {M M' : zM} (h : zGw M M') : zFrM M M' := ⟨fun a h1 => funext fun j => h.1 a j (by
  unfold zGwI zSrI
  simp only [Bool.or_eq_false_iff, Bool.and_eq_false_iff, decide_eq_false_iff_not, beq_eq_false_iff_ne]
  omega), h.2.1 131 (by decide), by rw [h.2.2]⟩
theorem zLm.fM {M M' : zM} (h : zLm M M') : zFrM M M' := ⟨fun a h1 => h.1 a (by omega) (by omega) (by omega) (by omega), by rw [h.2.1], h.2.2.1⟩
theorem zIm.q {M M' : zM} {S : zLS} (h : zIm M S) (hq : zQm M M') : zIm M' S := by
  have e : ∀ a j, zQmI a j = false → M'.1 a j = M.1 a j := hq.1
  refine h.cg (fun j hj => e 118 j ?_) (fun j hj => e 119 j ?_) (funext fun j => e 128 j rfl) (funext fun j => e 129 j rfl) (funext fun j => e 130 j rfl) (by rw [hq.2.2])
  · rcases hj with rfl | rfl | rfl | rfl | rfl | rfl <;> rfl
  · unfold zQmI zSrI
    simp only [Bool.or_eq_false_iff, Bool.and_eq_false_iff, decide_eq_false_iff_not, beq_eq_false_iff_ne]
    omega
theorem zIm.m {M M' : zM} {S : zLS} {u : zV × Nat × (Nat → zV)} (h : zIm M S) (hm : zMm M M') (hA : zRA M' 119 u.1) (hU : zMu M' u.2.1 u.2.2) : zIm M' (u, S.2) := by
  obtain ⟨-, hd, -, h17, hB, h23, h24, hO⟩ := h
  have e : ∀ a j, zMmI a j = false → M'.1 a j = M.1 a j := hm.1
  exact ⟨hA, by rw [e 118 4 rfl]; exact hd, hU, by rw [e 118 17 rfl]; exact h17, hB.cg (funext fun j => e 129 j rfl), by rw [e 118 23 rfl]; exact h23, by rw [e 118 24 rfl]; exact h24, hO.cg (e 118 29 rfl) (funext fun j => e 130 j rfl)⟩
theorem zIm.b {M M' : zM} {S : zLS} {n : Nat} {B : Nat → Nat} (h : zIm M S) (hf : zGb M M') (h17 : M'.1 118 17 = nI n) (hB : zBf M' 129 n B) : zIm M' (S.1, (n, B), S.2.2) := by
  obtain ⟨hA, hd, hU, -, -, h23, h24, hO⟩ := h
  exact ⟨hf.ra hA, by rw [hf.2.2 4 rfl]; exact hd, hU.cg (hf.2.2 27 rfl) (hf.1 128 (by decide) (by decide)), h17, hB, by rw [hf.2.2 23 rfl]; exact h23, by rw [hf.2.2 24 rfl]; exact h24, hO.cg (hf.2.2 29 rfl) (hf.1 130 (by decide) (by decide))⟩
theorem zIm.w {M M' : zM} {S : zLS} {o : Nat × (Nat → Nat)} (h : zIm M S) (hf : zGw M M') (hO : zMo M' o) : zIm M' (S.1, S.2.1, o, S.2.2.2) := by
  obtain ⟨hA, hd, hU, h17, hB, h23, h24, -⟩ := h
  have e : ∀ a j, zGwI a j = false → M'.1 a j = M.1 a j := hf.1
  exact ⟨⟨by rw [hf.2.2]; exact hA.1, hA.2.1, fun j hj => by rw [e 119 j rfl]; exact hA.2.2 j hj⟩, by rw [e 118 4 rfl]; exact hd, hU.cg (e 118 27 rfl) (funext fun j => e 128 j rfl), by rw [e 118 17 rfl]; exact h17, hB.cg (funext fun j => e 129 j rfl), by rw [e 118 23 rfl]; exact h23, by rw [e 118 24 rfl]; exact h24, hO⟩
theorem zIm.l {M M' : zM} {S : zLS} {u : zV × Nat × (Nat → zV)} {B : Nat → Nat} {c p : Nat} (h : zIm M S) (hl : zLm M M') (h17 : M'.1 118 17 = nI 0) (h4 : M'.1 118 4 = nI 0) (h23 : M'.1 118 23 = nI c) (h24 : c ≠ 0 → M'.1 118 24 = nI p) (h240 : c = 0 → M'.1 118 24 = -1) (hA : zRA M' 119 u.1) (hU : zMu M' u.2.1 u.2.2) : zIm M' (u, (0, B), S.2.2.1, (c, p)) := by
  obtain ⟨-, -, -, -, -, -, -, hO⟩ := h
  refine ⟨hA, h4, hU, h17, fun j hj => absurd hj (Nat.not_lt_zero j), h23, ?_, hO.cg (hl.2.2.2 29 (by decide)) (hl.1 130 (by decide) (by decide) (by decide) (by decide))⟩
  show M'.1 118 24 = if c = 0 then -1 else nI p
  by_cases q : c = 0
  · rw [if_pos q]; exact h240 q
  · rw [if_neg q]; exact h24 q
/-! small rules -/
section Z991
variable {G : zGx} {y : MethodName} {cc : ByteArray} {nL : Nat} {ret : Option FieldType} {R : Room} {Q : Option Value → zM → Prop} {X : String → zM → Prop} {a b pc n : Nat} {l t : List (Option Value)} {st : List Value} {M : zM}
theorem zj_keepG (bs : List Bool) (k : zJG G y cc nL ret R Q X a b pc (zKeep bs l) st M) : zJG G y cc nL ret R Q X a b pc l st M := zj_sub (zKeep_le bs l) k
theorem zj_laloadW {k j : Nat} {x : Int64} (hn : pc + 1 = n) (hd : decode cc pc = .ok (.laload, 1)) (hk : k < 133) (ht : zTy k = 22) (hj : j < zLen k) (he : M.2.1 k j = x) (k9 : zJG G y cc nL ret R Q X a b n l (.long x :: st) M) : zJG G y cc nL ret R Q X a b pc l (.int (nI j) :: .ref k :: st) M := zj_laload hn hd hk ht (vp_in_nI hj (zLen_lt7 k)) (by rw [nI_clamp (Nat.lt_trans hj (zLen_lt7 k)), he]; exact k9)
theorem zj_daloadW {k j : Nat} {x : UInt64} (hn : pc + 1 = n) (hd : decode cc pc = .ok (.daload, 1)) (hk : k < 133) (ht : zTy k = 23) (hj : j < zLen k) (he : M.2.2.1 k j = x) (k9 : zJG G y cc nL ret R Q X a b n l (.double x :: st) M) : zJG G y cc nL ret R Q X a b pc l (.int (nI j) :: .ref k :: st) M := zj_daload hn hd hk ht (vp_in_nI hj (zLen_lt7 k)) (by rw [nI_clamp (Nat.lt_trans hj (zLen_lt7 k)), he]; exact k9)
theorem zj_dastoreN {k j : Nat} {x : UInt64} (hn : pc + 1 = n) (hd : decode cc pc = .ok (.dastore, 1)) (hk : k < 133) (ht : zTy k = 23) (hj : j < zLen k) (k9 : zJG G y cc nL ret R Q X a b n l st (M.1, M.2.1, zU M.2.2.1 k j x, M.2.2.2)) : zJG G y cc nL ret R Q X a b pc l (.double x :: .int (nI j) :: .ref k :: st) M := zj_dastore hn hd hk ht (vp_in_nI hj (zLen_lt7 k)) (by rw [nI_clamp (Nat.lt_trans hj (zLen_lt7 k))]; exact k9)
theorem zlcmp_eq (x : Int64) : lg_cmp x x = nI 0 := by unfold lg_cmp; simp; rfl
theorem zj_lcmpE {x : Int64} (hn : pc + 1 = n) (hd : decode cc pc = .ok (.lcmp, 1)) (k : zJG G y cc nL ret R Q X a b n l (.int (nI 0) :: st) M) : zJG G y cc nL ret R Q X a b pc l (.long x :: .long x :: st) M := zj_lcmp hn hd (by rw [zlcmp_eq]; exact k)
theorem zj_sldN {L j : Nat} {xs : Nat → Int32} (hL : L ≤ 3072) (hn : pc + 1 = n) (hd : decode cc pc = .ok (.iaload, 1)) (hj : j < L) (k : zJG (zGL L xs) y cc nL ret R Q X a b n l (.int (xs j) :: st) M) : zJG (zGL L xs) y cc nL ret R Q X a b pc l (.int (nI j) :: .ref 800 :: st) M := zj_sld hn hd (vp_in_nI hj (by omega)) (by rw [nI_clamp (by omega)]; exact k)
theorem jX10_thrownN {e : Nat} (he : M.1 118 0 = nI e) (h : Q (some (.int (nI e))) M) : zJ yX10_thrown cX10_thrown 1 (some .int) rX10_thrown Q X rX10_thrown.cells rX10_thrown.slots 0 (zEnt 1 [.ref 118]) [] M := jX10_thrown (by rw [he]; exact h)
end Z991
/-! the names stay -/
theorem zNam.of {v u : zV} {b : Nat} (h : zNam v b) (e : ∀ k, k < 6 → u (b + k) = v (b + k)) : zNam u b := by
  obtain ⟨L, h1, h6, hL, h0⟩ := h
  exact ⟨L, h1, h6, fun k hk => by rw [e k (by omega)]; exact hL k hk, fun k h2 h3 => by rw [e k h3]; exact h0 k h2 h3⟩
def zNmC (i : Nat) : Prop := (10 ≤ i ∧ i < 202 ∧ 6 ≤ (i - 10) % 12) ∨ (202 ≤ i ∧ i < 268 ∧ 5 ≤ (i - 202) % 11) ∨ (268 ≤ i ∧ i < 498 ∧ 17 ≤ (i - 268) % 23)
theorem zNmS.of {v u : zV} (h : zNmS v) (hW : zWF v) (e : ∀ i, i = 6 ∨ i = 7 ∨ i = 8 ∨ zNmC i → u i = v i) : zNmS u := by
  have h6 := hW.nN
  have h7 := hW.tN
  have h8 := hW.gN
  refine ⟨fun i hi => ?_, fun i hi => ?_, fun i hi => ?_⟩
  · rw [e 6 (by omega)] at hi
    exact (h.1 i hi).of (fun k hk => e _ (by unfold zNmC; omega))
  · rw [e 7 (by omega)] at hi
    exact (h.2.1 i hi).of (fun k hk => e _ (by unfold zNmC; omega))
  · rw [e 8 (by omega)] at hi
    exact (h.2.2 i hi).of (fun k hk => e _ (by unfold zNmC; omega))
theorem vround_nm {v : zV} (hW : zWF v) {i : Nat} (hi : i = 6 ∨ i = 7 ∨ i = 8 ∨ zNmC i) : vround v i = v i := by
  by_cases q : i < 202
  · refine vround_low hW q ?_ ?_ ?_ <;> (unfold zNmC at hi; omega)
  · have hi : zNmC i := by rcases hi with h | h | h | h <;> first | omega | exact h
    unfold zNmC at hi
    unfold vround
    rw [vset_off (by omega), vrecord_low (by omega) (by omega)]
    unfold vend
    rw [vset_off (by omega), (vfix_ok hW _ (Nat.le_refl _)).1.2 i (fun j hj => by omega)]
    by_cases w : i < 268
    · obtain ⟨t, c, rfl, hc⟩ : ∃ t c, i = 202 + 11 * t + c ∧ c < 11 := ⟨(i - 202) / 11, (i - 202) % 11, by omega, by omega⟩
      exact vpays_c hc (by omega)
    · exact vpays_far hW (Nat.le_refl _) (by omega)
theorem vround_nms {v : zV} (hW : zWF v) (h : zNmS v) : zNmS (vround v) := h.of hW (fun i hi => vround_nm hW hi)
theorem vrs_nms {v : zV} (hW : zWF v) (h : zNmS v) : ∀ k, zNmS (vrs v k) := by
  intro k
  induction k with
  | zero => exact h
  | succ k ih => rw [vrs_succ]; exact vround_nms (vrs_wf hW k) ih
/-! what the calls keep -/
theorem zIp.keep {S : zLS} {v2 : zV} (c : Nat) (h : zIp S) (h2 : c = 0 → zWF v2 ∧ zNmS v2) : zIp (skeep c v2 S.1.1 S.1.2.1 S.1.2.2, S.2) := by
  obtain ⟨hW, hN, h8, hU, hr⟩ := h
  unfold skeep
  by_cases q : c = 0
  · rw [if_pos q]
    refine ⟨(h2 q).1, (h2 q).2, ?_, ?_, hr⟩
    · show vkN S.1.2.1 ≤ 8
      unfold vkN
      split <;> omega
    · intro i hi
      show zWF (vkU S.1.2.1 S.1.2.2 S.1.1 i) ∧ zNmS (vkU S.1.2.1 S.1.2.2 S.1.1 i)
      have hi : i < vkN S.1.2.1 := hi
      unfold vkN at hi
      unfold vkU
      by_cases w : S.1.2.1 = 8
      · rw [if_pos w]
        split
        · exact hU (i + 1) (by omega)
        · exact ⟨hW, hN⟩
      · rw [if_neg w]
        split
        · rename_i w2; exact hU i w2
        · exact ⟨hW, hN⟩
  · rw [if_neg q]
    exact ⟨hW, hN, h8, hU, hr⟩
theorem zp_st {v : zV} {n x : Nat} (hW : zWF v) (hN : zNmS v) (hn : n < v 6) (hx : x ≤ 2) : zWF (vst v n x) ∧ zNmS (vst v n x) := by
  have h6 := hW.nN
  exact ⟨vst_wf hW hn hx, hN.of hW (fun i hi => by unfold zNmC at hi; unfold vst; rw [vset_off (by omega), vset_off (by omega)])⟩
theorem zp_fail {v : zV} {x : Int32} (hW : zWF v) (hN : zNmS v) (h : (a_fail v x).1 = 0) : zWF (vst v (xn x) 1) ∧ zNmS (vst v (xn x) 1) := by
  have h6 := hW.nN
  cases q : zin x (v 6) with
  | false => unfold a_fail at h; rw [q] at h; exact absurd h (by simp)
  | true =>
    obtain ⟨n, hn, rfl⟩ := (zin_iff (by omega)).mp q
    rw [xn_at (by omega)]
    exact zp_st hW hN hn (by decide)
theorem zp_recover {v : zV} {x : Int32} (hW : zWF v) (hN : zNmS v) (h : (a_recover v x).1 = 0) : zWF (vst v (xn x) 0) ∧ zNmS (vst v (xn x) 0) := by
  have h6 := hW.nN
  cases q : zin x (v 6) with
  | false => unfold a_recover at h; rw [q] at h; exact absurd h (by simp)
  | true =>
    obtain ⟨n, hn, rfl⟩ := (zin_iff (by omega)).mp q
    rw [xn_at (by omega)]
    exact zp_st hW hN hn (by decide)
theorem zp_drain {v : zV} {x : Int32} {b : Bool} (hW : zWF v) (hN : zNmS v) (h : (a_drain v x b).1 = 0) : zWF (vst v (xn x) (if b then 2 else 0)) ∧ zNmS (vst v (xn x) (if b then 2 else 0)) := by
  have h6 := hW.nN
  cases q : zin x (v 6) with
  | false => unfold a_drain at h; rw [q] at h; exact absurd h (by simp)
  | true =>
    obtain ⟨n, hn, rfl⟩ := (zin_iff (by omega)).mp q
    rw [xn_at (by omega)]
    exact zp_st hW hN hn (by split <;> decide)
theorem zp_round {v : zV} (hW : zWF v) (hN : zNmS v) (_ : (a_round v).1 = 0) : zWF (vround v) ∧ zNmS (vround v) := ⟨vround_wf hW, vround_nms hW hN⟩
theorem zp_rounds {v : zV} {x : Int32} (hW : zWF v) (hN : zNmS v) (_ : (a_rounds v x).1 = 0) : zWF (vrs v (xn x)) ∧ zNmS (vrs v (xn x)) := ⟨vrs_wf hW _, vrs_nms hW hN _⟩
theorem zp_setRisk {v : zV} {x z : Int32} (hW : zWF v) (hN : zNmS v) (h : (a_setRisk v x z).1 = 0) : zWF (vset v (10 + 12 * xn x + 2) (xn z)) ∧ zNmS (vset v (10 + 12 * xn x + 2) (xn z)) := by
  have h6 := hW.nN
  cases q : zin x (v 6) with
  | false => unfold a_setRisk at h; rw [q] at h; exact absurd h (by simp)
  | true =>
    cases q2 : zin z 1000 with
    | false => unfold a_setRisk at h; rw [q, q2] at h; exact absurd h (by simp)
    | true =>
      obtain ⟨n, hn, rfl⟩ := (zin_iff (by omega)).mp q
      obtain ⟨k, hk, rfl⟩ := (zin_iff (by decide)).mp q2
      rw [xn_at (by omega), xn_at (by omega)]
      exact ⟨hW.setN hn (by omega), hN.of hW (fun i hi => by unfold zNmC at hi; rw [vset_off (by omega)])⟩
theorem zp_grant {v : zV} {x z : Int32} (hW : zWF v) (hN : zNmS v) (h : (a_grant v x z).1 = 0) : zWF (vset v (202 + 11 * xn x + 2) (v (202 + 11 * xn x + 2) + xn z)) ∧ zNmS (vset v (202 + 11 * xn x + 2) (v (202 + 11 * xn x + 2) + xn z)) := by
  have h7 := hW.tN
  cases q : zin x (v 7) with
  | false => unfold a_grant at h; rw [q] at h; exact absurd h (by simp)
  | true =>
    cases q2 : zin2 z 1 999999 with
    | false => unfold a_grant at h; rw [q, q2] at h; exact absurd h (by simp)
    | true =>
      by_cases q3 : v (202 + 11 * xn x + 2) + xn z ≤ 9999999
      · obtain ⟨n, hn, rfl⟩ := (zin_iff (by omega)).mp q
        rw [xn_at (by omega)] at q3 ⊢
        exact ⟨hW.setT hn (by omega), hN.of hW (fun i hi => by unfold zNmC at hi; rw [vset_off (by omega)])⟩
      · unfold a_grant at h
        rw [q, q2, if_pos rfl, if_pos rfl, if_neg q3] at h
        exact absurd h (by simp)
theorem zWF.setH {v : zV} {j x : Nat} (hW : zWF v) (hj : j = 0 ∧ x ≤ 99999 ∨ j = 3 ∧ x ≤ 2) : zWF (vset v j x) := by
  have e : ∀ i, i ≠ 0 → i ≠ 3 → vset v j x i = v i := fun i h1 h2 => vset_off (by omega)
  have eN : ∀ n c, nd (vset v j x) n c = nd v n c := fun n c => e (10 + 12 * n + c) (by omega) (by omega)
  have eT : ∀ n c, tn (vset v j x) n c = tn v n c := fun n c => e (202 + 11 * n + c) (by omega) (by omega)
  have eG : ∀ n c, gp (vset v j x) n c = gp v n c := fun n c => e (268 + 23 * n + c) (by omega) (by omega)
  have eH : ∀ k c, hs (vset v j x) k c = hs v k c := fun n c => e (498 + 5 * n + c) (by omega) (by omega)
  have eS : ∀ g, vsh (vset v j x) g = vsh v g := fun g => by unfold vsh; rw [eG, eG]
  have eO : ∀ g s, hol (vset v j x) g s = hol v g s := fun g s => eG g (7 + s)
  obtain ⟨h0, h1, h2, h3, h4, h6, h7, h8, h9, hn, ha, ht, hg, hh, hi, hk⟩ := hW
  refine ⟨?_, by rw [e 1 (by decide) (by decide)]; exact h1, by rw [e 2 (by decide) (by decide)]; exact h2, ?_, by rw [e 4 (by decide) (by decide)]; exact h4, by rw [e 6 (by decide) (by decide)]; exact h6, by rw [e 7 (by decide) (by decide)]; exact h7, by rw [e 8 (by decide) (by decide)]; exact h8, by rw [e 9 (by decide) (by decide)]; exact h9, fun n q => ?_, fun n m q q2 => ?_, fun t q => ?_, fun g q => ?_, fun g s q q2 => ?_, fun g s t q q2 q3 => ?_, fun k q => ?_⟩
  · unfold vset; split <;> omega
  · unfold vset; split <;> omega
  · rw [e 6 (by decide) (by decide)] at q; simp only [eN]; exact hn n q
  · rw [e 6 (by decide) (by decide)] at q q2; simp only [eN]; exact ha n m q q2
  · rw [e 7 (by decide) (by decide)] at q; simp only [eT]; exact ht t q
  · rw [e 8 (by decide) (by decide)] at q; simp only [eG]; rw [e 7 (by decide) (by decide)]; exact hg g q
  · rw [e 8 (by decide) (by decide)] at q; rw [eS] at q2; rw [eO, e 6 (by decide) (by decide)]; exact hh g s q q2
  · rw [e 8 (by decide) (by decide)] at q; rw [eS] at q2 q3; rw [eO, eO]; exact hi g s t q q2 q3
  · rw [e 9 (by decide) (by decide)] at q; rw [eH]; exact hk k q
theorem zp_setBandwidth {v : zV} {x : Int32} (hW : zWF v) (hN : zNmS v) (h : (a_setBandwidth v x).1 = 0) : zWF (vset v 0 (xn x)) ∧ zNmS (vset v 0 (xn x)) := by
  cases q : zin2 x 1 99999 with
  | false => unfold a_setBandwidth at h; rw [q] at h; exact absurd h (by simp)
  | true =>
    obtain ⟨n, h1, h2, rfl⟩ := (zin2_iff (by decide) (by decide)).mp q
    rw [xn_at (by omega)]
    exact ⟨hW.setH (by omega), hN.of hW (fun i hi => by unfold zNmC at hi; rw [vset_off (by omega)])⟩
theorem zp_setRule {v : zV} {x : Int32} (hW : zWF v) (hN : zNmS v) (h : (a_setRule v x).1 = 0) : zWF (vset v 3 (xn x)) ∧ zNmS (vset v 3 (xn x)) := by
  cases q : zin x 3 with
  | false => unfold a_setRule at h; rw [q] at h; exact absurd h (by simp)
  | true =>
    obtain ⟨n, h1, rfl⟩ := (zin_iff (by decide)).mp q
    rw [xn_at (by omega)]
    exact ⟨hW.setH (by omega), hN.of hW (fun i hi => by unfold zNmC at hi; rw [vset_off (by omega)])⟩
theorem zp_move {v : zV} {x z t : Int32} (hW : zWF v) (hN : zNmS v) (h : (a_move v x z t).1 = 0) : zWF (vset v (268 + 23 * xn x + 7 + xn z) (xn t)) ∧ zNmS (vset v (268 + 23 * xn x + 7 + xn z) (xn t)) := by
  have h6 := hW.nN
  have h8 := hW.gN
  cases q : (zin x (v 8) && zin t (v 6) && zin z (vsh v (xn x))) with
  | false => unfold a_move at h; rw [q] at h; exact absurd h (by simp)
  | true =>
    rw [Bool.and_eq_true, Bool.and_eq_true] at q
    obtain ⟨⟨q1, q2⟩, q3⟩ := q
    cases q4 : vcanm v (xn x) (xn z) (xn t) with
    | false => unfold a_move at h; rw [q1, q2, q3, q4] at h; exact absurd h (by simp)
    | true =>
      obtain ⟨g, hg, rfl⟩ := (zin_iff (by omega)).mp q1
      obtain ⟨n, hn, rfl⟩ := (zin_iff (by omega)).mp q2
      rw [xn_at (by omega)] at q3 q4 ⊢
      have hsh := (hW.sh hg).2
      obtain ⟨s, hs, rfl⟩ := (zin_iff (by omega)).mp q3
      rw [xn_at (by omega), xn_at (by omega)] at q4 ⊢
      unfold vcanm at q4
      simp only [Bool.and_eq_true, Bool.not_eq_true'] at q4
      have hv := q4.1.2
      refine ⟨hW.ofGrp hg (fun i hi => vset_off (by omega)) ?_ (fun j hj => ?_) (fun j t hj ht e => ?_), hN.of hW (fun i hi => by unfold zNmC at hi; rw [vset_off (by omega)])⟩
      · rw [vset_off (by omega)]
        exact (hW.2.2.2.2.2.2.2.2.2.2.2.2.1 g hg).2.2.2.2.2.2.2.2.2.2
      · by_cases w : j = s
        · subst w; rw [show 268 + 23 * g + (7 + j) = 268 + 23 * g + 7 + j by omega, vset_at]; exact hn
        · rw [vset_off (by omega)]; exact hW.holds hg hj
      · by_cases w : j = s
        · by_cases w2 : t = s
          · omega
          · exfalso
            subst w
            rw [show 268 + 23 * g + (7 + j) = 268 + 23 * g + 7 + j by omega, vset_at, vset_off (by omega)] at e
            exact vhas_f hv ht e.symm
        · by_cases w2 : t = s
          · exfalso
            subst w2
            rw [show 268 + 23 * g + (7 + t) = 268 + 23 * g + 7 + t by omega, vset_at, vset_off (by omega)] at e
            exact vhas_f hv hj e
          · rw [vset_off (by omega), vset_off (by omega)] at e; exact hW.one hg hj ht e
