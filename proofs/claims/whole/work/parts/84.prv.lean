/-! THE PARSER'S STATES KEEP THEIR BOUNDS -/
def zPv (v : zV) : Prop := zWF v ∧ zNmS v ∧ (∀ j, 10 + 12 * v 6 ≤ j → j < 202 → v j = 0) ∧ (∀ j, 202 + 11 * v 7 ≤ j → j < 268 → v j = 0) ∧ (∀ j, 268 + 23 * v 8 ≤ j → j < 498 → v j = 0) ∧ v 4 = 0 ∧ v 5 = 0 ∧ v 9 = 0
/-- a node more -/
theorem zWF.addN {v v' : zV} (hW : zWF v) (h16 : v 6 < 16) (e6 : v' 6 = v 6 + 1) (h : ∀ j, zAc v j → j ≠ 6 → v' j = v j) (h0 : v' (10 + 12 * v 6 + 0) ≤ 9999) (h1 : v' (10 + 12 * v 6 + 1) ≤ 9) (h2 : v' (10 + 12 * v 6 + 2) ≤ 999) (h3 : v' (10 + 12 * v 6 + 3) ≤ 50) (h4 : v' (10 + 12 * v 6 + 4) ≤ 2) (ha : ∀ i, i < v 6 → v (10 + 12 * i + 0) ≠ v' (10 + 12 * v 6 + 0)) : zWF v' := by
  have hn7 := hW.tN
  have hn8 := hW.gN
  have hn9 := hW.hN
  have e : ∀ i, i < 10 → i ≠ 6 → v' i = v i := fun i hi h9 => h i (Or.inl hi) h9
  have e7 := e 7 (by decide) (by decide)
  have e8 := e 8 (by decide) (by decide)
  have e9 := e 9 (by decide) (by decide)
  have en : ∀ m c, m < v 6 → c < 12 → v' (10 + 12 * m + c) = v (10 + 12 * m + c) := fun m c hm hc => h _ (Or.inr (Or.inl (by omega))) (by omega)
  have et : ∀ m c, m < v 7 → c < 11 → v' (202 + 11 * m + c) = v (202 + 11 * m + c) := fun m c hm hc => h _ (Or.inr (Or.inr (Or.inl (by omega)))) (by omega)
  have eg : ∀ m c, m < v 8 → c < 23 → v' (268 + 23 * m + c) = v (268 + 23 * m + c) := fun m c hm hc => h _ (Or.inr (Or.inr (Or.inr (Or.inl (by omega))))) (by omega)
  have ep : ∀ m c, m < v 9 → c < 5 → v' (498 + 5 * m + c) = v (498 + 5 * m + c) := fun m c hm hc => h _ (Or.inr (Or.inr (Or.inr (Or.inr (by omega))))) (by omega)
  have hsh : ∀ g, g < v 8 → vsh v g ≤ 10 := fun g hg => (hW.sh hg).2
  have eS : ∀ g, g < v 8 → vsh v' g = vsh v g := fun g hg => (vcost_vg (fun c hc => eg g c hg (by omega))).2
  obtain ⟨g0, g1, g2, g3, g4, g6, g7, g8, g9, hnn, hap, ht, hg, hh, hi, hk⟩ := hW
  refine ⟨by rw [e 0 (by decide) (by decide)]; exact g0, by rw [e 1 (by decide) (by decide)]; exact g1, by rw [e 2 (by decide) (by decide)]; exact g2, by rw [e 3 (by decide) (by decide)]; exact g3, by rw [e 4 (by decide) (by decide)]; exact g4, by rw [e6]; exact h16, by rw [e7]; exact g7, by rw [e8]; exact g8, by rw [e9]; exact g9, ?_, ?_, ?_, ?_, ?_, ?_, ?_⟩
  · intro m q
    simp only [nd]
    by_cases w : m < v 6
    · rw [en m 0 w (by decide), en m 1 w (by decide), en m 2 w (by decide), en m 3 w (by decide), en m 4 w (by decide)]
      exact hnn m w
    · have : m = v 6 := by omega
      subst this
      exact ⟨h0, h1, h2, h3, h4⟩
  · intro m l q q2 w
    simp only [nd] at w
    by_cases w1 : m < v 6
    · by_cases w2 : l < v 6
      · rw [en m 0 w1 (by decide), en l 0 w2 (by decide)] at w
        exact hap m l w1 w2 w
      · have : l = v 6 := by omega
        subst this
        rw [en m 0 w1 (by decide)] at w
        exact absurd w (ha m w1)
    · have : m = v 6 := by omega
      subst this
      by_cases w2 : l < v 6
      · rw [en l 0 w2 (by decide)] at w
        exact absurd w.symm (ha l w2)
      · omega
  · intro t q
    rw [e7] at q
    simp only [tn]
    rw [et t 0 q (by decide), et t 1 q (by decide), et t 2 q (by decide), et t 4 q (by decide)]
    exact ht t q
  · intro g q
    rw [e8] at q
    simp only [gp]
    rw [eg g 0 q (by decide), eg g 1 q (by decide), eg g 2 q (by decide), eg g 3 q (by decide), eg g 4 q (by decide), eg g 5 q (by decide), eg g 6 q (by decide), e7]
    exact hg g q
  · intro g j q q2
    rw [e8] at q
    rw [eS g q] at q2
    have := hsh g q
    show v' (268 + 23 * g + (7 + j)) < v' 6
    rw [e6, eg g _ q (by omega)]
    have : v (268 + 23 * g + (7 + j)) < v 6 := hh g j q q2
    omega
  · intro g j t q q2 q3 w
    rw [e8] at q
    rw [eS g q] at q2 q3
    have := hsh g q
    simp only [hol, gp] at w
    rw [eg g _ q (by omega), eg g _ q (by omega)] at w
    exact hi g j t q q2 q3 w
  · intro k q
    rw [e9] at q
    simp only [hs]
    rw [ep k 2 q (by decide)]
    exact hk k q
theorem zWF.addT {v v' : zV} (hW : zWF v) (h16 : v 7 < 6) (e7 : v' 7 = v 7 + 1) (h : ∀ j, zAc v j → j ≠ 7 → v' j = v j) (h0 : v' (202 + 11 * v 7 + 0) ≤ 999999) (h1 : v' (202 + 11 * v 7 + 1) ≤ 999999) (h2 : v' (202 + 11 * v 7 + 2) ≤ 9999999) (h4 : v' (202 + 11 * v 7 + 4) ≤ 2000000000) : zWF v' := by
  have hn6 := hW.nN
  have hn8 := hW.gN
  have hn9 := hW.hN
  have e : ∀ i, i < 10 → i ≠ 7 → v' i = v i := fun i hi h9 => h i (Or.inl hi) h9
  have e6 := e 6 (by decide) (by decide)
  have e8 := e 8 (by decide) (by decide)
  have e9 := e 9 (by decide) (by decide)
  have en : ∀ m c, m < v 6 → c < 12 → v' (10 + 12 * m + c) = v (10 + 12 * m + c) := fun m c hm hc => h _ (Or.inr (Or.inl (by omega))) (by omega)
  have et : ∀ m c, m < v 7 → c < 11 → v' (202 + 11 * m + c) = v (202 + 11 * m + c) := fun m c hm hc => h _ (Or.inr (Or.inr (Or.inl (by omega)))) (by omega)
  have eg : ∀ m c, m < v 8 → c < 23 → v' (268 + 23 * m + c) = v (268 + 23 * m + c) := fun m c hm hc => h _ (Or.inr (Or.inr (Or.inr (Or.inl (by omega))))) (by omega)
  have ep : ∀ m c, m < v 9 → c < 5 → v' (498 + 5 * m + c) = v (498 + 5 * m + c) := fun m c hm hc => h _ (Or.inr (Or.inr (Or.inr (Or.inr (by omega))))) (by omega)
  have hsh : ∀ g, g < v 8 → vsh v g ≤ 10 := fun g hg => (hW.sh hg).2
  have eS : ∀ g, g < v 8 → vsh v' g = vsh v g := fun g hg => (vcost_vg (fun c hc => eg g c hg (by omega))).2
  obtain ⟨g0, g1, g2, g3, g4, g6, g7, g8, g9, hnn, hap, ht, hg, hh, hi, hk⟩ := hW
  refine ⟨by rw [e 0 (by decide) (by decide)]; exact g0, by rw [e 1 (by decide) (by decide)]; exact g1, by rw [e 2 (by decide) (by decide)]; exact g2, by rw [e 3 (by decide) (by decide)]; exact g3, by rw [e 4 (by decide) (by decide)]; exact g4, by rw [e6]; exact g6, by rw [e7]; exact h16, by rw [e8]; exact g8, by rw [e9]; exact g9, ?_, ?_, ?_, ?_, ?_, ?_, ?_⟩
  · intro m w
    rw [e6] at w
    simp only [nd]
    rw [en m 0 w (by decide), en m 1 w (by decide), en m 2 w (by decide), en m 3 w (by decide), en m 4 w (by decide)]
    exact hnn m w
  · intro m l w1 w2 w
    rw [e6] at w1 w2
    simp only [nd] at w
    rw [en m 0 w1 (by decide), en l 0 w2 (by decide)] at w
    exact hap m l w1 w2 w
  · intro t q
    simp only [tn]
    by_cases w : t < v 7
    · rw [et t 0 w (by decide), et t 1 w (by decide), et t 2 w (by decide), et t 4 w (by decide)]
      exact ht t w
    · have : t = v 7 := by omega
      subst this
      exact ⟨h0, h1, h2, h4⟩
  · intro g q
    rw [e8] at q
    simp only [gp]
    rw [eg g 0 q (by decide), eg g 1 q (by decide), eg g 2 q (by decide), eg g 3 q (by decide), eg g 4 q (by decide), eg g 5 q (by decide), eg g 6 q (by decide), e7]
    have q9 := hg g q
    simp only [gp] at q9
    exact ⟨by omega, q9.2⟩
  · intro g j q q2
    rw [e8] at q
    rw [eS g q] at q2
    have := hsh g q
    show v' (268 + 23 * g + (7 + j)) < v' 6
    rw [e6, eg g _ q (by omega)]
    exact hh g j q q2
  · intro g j t q q2 q3 w
    rw [e8] at q
    rw [eS g q] at q2 q3
    have := hsh g q
    simp only [hol, gp] at w
    rw [eg g _ q (by omega), eg g _ q (by omega)] at w
    exact hi g j t q q2 q3 w
  · intro k q
    rw [e9] at q
    simp only [hs]
    rw [ep k 2 q (by decide)]
    exact hk k q
theorem zWF.addG {v v' : zV} (hW : zWF v) (h16 : v 8 < 10) (e8 : v' 8 = v 8 + 1) (h : ∀ j, zAc v j → j ≠ 8 → v' j = v j)
    (hx : v' (268 + 23 * v 8 + 0) < v 7 ∧ v' (268 + 23 * v 8 + 1) ≤ 9999 ∧ 1 ≤ v' (268 + 23 * v 8 + 2) ∧ v' (268 + 23 * v 8 + 2) ≤ 6 ∧ 1 ≤ v' (268 + 23 * v 8 + 3) ∧ v' (268 + 23 * v 8 + 3) ≤ 4 ∧ 1 ≤ v' (268 + 23 * v 8 + 4) ∧ v' (268 + 23 * v 8 + 4) ≤ 100 ∧ 1 ≤ v' (268 + 23 * v 8 + 5) ∧ v' (268 + 23 * v 8 + 5) ≤ 9999 ∧ v' (268 + 23 * v 8 + 6) ≤ 7000)
    (hy : ∀ s, s < vsh v' (v 8) → hol v' (v 8) s < v 6) (hz : ∀ s t, s < vsh v' (v 8) → t < vsh v' (v 8) → hol v' (v 8) s = hol v' (v 8) t → s = t) : zWF v' := by
  have hn6 := hW.nN
  have hn7 := hW.tN
  have hn9 := hW.hN
  have e : ∀ i, i < 10 → i ≠ 8 → v' i = v i := fun i hi h9 => h i (Or.inl hi) h9
  have e6 := e 6 (by decide) (by decide)
  have e7 := e 7 (by decide) (by decide)
  have e9 := e 9 (by decide) (by decide)
  have en : ∀ m c, m < v 6 → c < 12 → v' (10 + 12 * m + c) = v (10 + 12 * m + c) := fun m c hm hc => h _ (Or.inr (Or.inl (by omega))) (by omega)
  have et : ∀ m c, m < v 7 → c < 11 → v' (202 + 11 * m + c) = v (202 + 11 * m + c) := fun m c hm hc => h _ (Or.inr (Or.inr (Or.inl (by omega)))) (by omega)
  have eg : ∀ m c, m < v 8 → c < 23 → v' (268 + 23 * m + c) = v (268 + 23 * m + c) := fun m c hm hc => h _ (Or.inr (Or.inr (Or.inr (Or.inl (by omega))))) (by omega)
  have ep : ∀ m c, m < v 9 → c < 5 → v' (498 + 5 * m + c) = v (498 + 5 * m + c) := fun m c hm hc => h _ (Or.inr (Or.inr (Or.inr (Or.inr (by omega))))) (by omega)
  have hsh : ∀ g, g < v 8 → vsh v g ≤ 10 := fun g hg => (hW.sh hg).2
  have eS : ∀ g, g < v 8 → vsh v' g = vsh v g := fun g hg => (vcost_vg (fun c hc => eg g c hg (by omega))).2
  obtain ⟨g0, g1, g2, g3, g4, g6, g7, g8, g9, hnn, hap, ht, hg, hh, hi, hk⟩ := hW
  refine ⟨by rw [e 0 (by decide) (by decide)]; exact g0, by rw [e 1 (by decide) (by decide)]; exact g1, by rw [e 2 (by decide) (by decide)]; exact g2, by rw [e 3 (by decide) (by decide)]; exact g3, by rw [e 4 (by decide) (by decide)]; exact g4, by rw [e6]; exact g6, by rw [e7]; exact g7, by rw [e8]; exact h16, by rw [e9]; exact g9, ?_, ?_, ?_, ?_, ?_, ?_, ?_⟩
  · intro m w
    rw [e6] at w
    simp only [nd]
    rw [en m 0 w (by decide), en m 1 w (by decide), en m 2 w (by decide), en m 3 w (by decide), en m 4 w (by decide)]
    exact hnn m w
  · intro m l w1 w2 w
    rw [e6] at w1 w2
    simp only [nd] at w
    rw [en m 0 w1 (by decide), en l 0 w2 (by decide)] at w
    exact hap m l w1 w2 w
  · intro t w
    rw [e7] at w
    simp only [tn]
    rw [et t 0 w (by decide), et t 1 w (by decide), et t 2 w (by decide), et t 4 w (by decide)]
    exact ht t w
  · intro g q
    simp only [gp]
    rw [e7]
    by_cases w : g < v 8
    · rw [eg g 0 w (by decide), eg g 1 w (by decide), eg g 2 w (by decide), eg g 3 w (by decide), eg g 4 w (by decide), eg g 5 w (by decide), eg g 6 w (by decide)]
      exact hg g w
    · have : g = v 8 := by omega
      subst this
      exact hx
  · intro g j q q2
    show v' (268 + 23 * g + (7 + j)) < v' 6
    rw [e6]
    by_cases w : g < v 8
    · rw [eS g w] at q2
      have := hsh g w
      rw [eg g _ w (by omega)]
      exact hh g j w q2
    · have : g = v 8 := by omega
      subst this
      exact hy j q2
  · intro g j t q q2 q3 w
    by_cases w1 : g < v 8
    · rw [eS g w1] at q2 q3
      have := hsh g w1
      simp only [hol, gp] at w
      rw [eg g _ w1 (by omega), eg g _ w1 (by omega)] at w
      exact hi g j t w1 q2 q3 w
    · have : g = v 8 := by omega
      subst this
      exact hz j t q2 q3 w
  · intro k q
    rw [e9] at q
    simp only [hs]
    rw [ep k 2 q (by decide)]
    exact hk k q
/-- a good name's letters -/
theorem zNam.let {v : zV} {b n e : Nat} {B : Nat → Nat} (h : sBadN B n e = false) (hv : ∀ k, k < 6 → v (b + k) = if k < tE B n e - tS B n e then zsn (B (tS B n e + k)) else 0) : zNam v b := by
  unfold sBadN at h
  simp only [Bool.or_eq_false_iff, Bool.not_eq_false', beq_iff_eq, decide_eq_false_iff_not] at h
  have hp := tPos (B := B) (n := n) (e := e) (by omega)
  refine ⟨tE B n e - tS B n e, by omega, by omega, fun k hk => ?_, fun k h1 h2 => ?_⟩
  · have hl := zLetter_iff.mp (tLet h.1.1 (show tS B n e + k < tE B n e by omega))
    rw [hv k (by omega), if_pos hk, zsn_small (by omega)]
    exact hl
  · rw [hv k h2, if_neg (by omega)]
theorem vlet_in {v : zV} {a k : Nat} {B : Nat → Nat} {f t : Nat} (h : k < 6) : vlet v a B f t (a + k) = if k < t - f then zsn (B (f + k)) else 0 := by
  unfold vlet
  rw [if_pos (by omega), Nat.add_sub_cancel_left]
section PV
variable {B : Nat → Nat} {n : Nat} {v : zV} {s : zS}
theorem nd10_ok (h : (nd10 B n v s).1 = 0) : s.1 = 0 ∧ v 6 < 16 ∧ sBadN B n (nd1 B n v s).2.2 = false ∧ (kfind v 0 B (tS B n (nd1 B n v s).2.2) (tE B n (nd1 B n v s).2.2)).isSome = false ∧ tN B n (nd3 B n v s).2.2 ≤ 9999 ∧ zAny (v 6) (fun i => v (10 + 12 * i + 0) == tN B n (nd3 B n v s).2.2) = false ∧ tN B n (nd5 B n v s).2.2 ≤ 9 ∧ tN B n (nd7 B n v s).2.2 ≤ 999 ∧ 1 ≤ tN B n (nd9 B n v s).2.2 ∧ tN B n (nd9 B n v s).2.2 ≤ 50 := by
  have q10 := sNum_ok h
  have q8 := sNum_ok (sTake_ok q10.1).1
  have q6 := sNum_ok (sTake_ok q8.1).1
  have q4 := (sErr_ok (by decide)).mp (sNext_ok.mp (sTake_ok q6.1).1)
  have q3 := sNumE_ok q4.1
  have q2 := (sErr_ok (by decide)).mp (sNext_ok.mp (sTake_ok q3.1).1)
  have q2b := (sErr_ok (by decide)).mp q2.1
  have q1 := (sErr_ok (by decide)).mp (sNext_ok.mp q2b.1)
  exact ⟨q1.1, by simpa using q1.2, q2b.2, q2.2, q3.2.2.2, q4.2, q6.2.2.2, q8.2.2.2, q10.2.2.1, q10.2.2.2⟩
theorem vNode_off {j : Nat} (h : j < 10 + 12 * v 6 ∨ 10 + 12 * v 6 + 12 ≤ j) (h6 : j ≠ 6) : vNode B n v s j = v j := by
  unfold vNode
  rw [vset_off (by omega), vset_off (by omega), vset_off (by omega), vset_off (by omega), vset_off (by omega), vlet_off (by omega)]
theorem vNode_6 : vNode B n v s 6 = v 6 + 1 := vset_at
theorem vNode_r (hc : v 6 < 16) : vNode B n v s (10 + 12 * v 6 + 0) = tN B n (nd3 B n v s).2.2 ∧ vNode B n v s (10 + 12 * v 6 + 1) = tN B n (nd5 B n v s).2.2 ∧ vNode B n v s (10 + 12 * v 6 + 2) = tN B n (nd7 B n v s).2.2 ∧ vNode B n v s (10 + 12 * v 6 + 3) = tN B n (nd9 B n v s).2.2 ∧ vNode B n v s (10 + 12 * v 6 + 4) = v (10 + 12 * v 6 + 4) ∧ vNode B n v s (10 + 12 * v 6 + 5) = v (10 + 12 * v 6 + 5) ∧ ∀ k, k < 6 → vNode B n v s (10 + 12 * v 6 + 6 + k) = if k < tE B n (nd1 B n v s).2.2 - tS B n (nd1 B n v s).2.2 then zsn (B (tS B n (nd1 B n v s).2.2 + k)) else 0 := by
  unfold vNode
  refine ⟨?_, ?_, ?_, ?_, ?_, ?_, fun k hk => ?_⟩
  · rw [vset_off (by omega), vset_off (by omega), vset_off (by omega), vset_off (by omega), vset_at]
  · rw [vset_off (by omega), vset_off (by omega), vset_off (by omega), vset_at]
  · rw [vset_off (by omega), vset_off (by omega), vset_at]
  · rw [vset_off (by omega), vset_at]
  · rw [vset_off (by omega), vset_off (by omega), vset_off (by omega), vset_off (by omega), vset_off (by omega), vlet_off (by omega)]
  · rw [vset_off (by omega), vset_off (by omega), vset_off (by omega), vset_off (by omega), vset_off (by omega), vlet_off (by omega)]
  · rw [vset_off (by omega), vset_off (by omega), vset_off (by omega), vset_off (by omega), vset_off (by omega), vlet_in hk]
theorem zPv.node (hp : zPv v) (h : (nd10 B n v s).1 = 0) : zPv (vNode B n v s) := by
  obtain ⟨hW, hN, f6, f7, f8, z4, z5, z9⟩ := hp
  obtain ⟨-, hc, hb, hd, h0, hx, h1, h2, -, h3⟩ := nd10_ok h
  obtain ⟨r0, r1, r2, r3, r4, r5, r6⟩ := vNode_r (B := B) (n := n) (v := v) (s := s) hc
  have h7 := hW.tN
  have h8 := hW.gN
  have e6 : vNode B n v s 6 = v 6 + 1 := vNode_6
  have e7 : vNode B n v s 7 = v 7 := vNode_off (by omega) (by decide)
  have e8 : vNode B n v s 8 = v 8 := vNode_off (by omega) (by decide)
  have hag : ∀ j, zAc v j → j ≠ 6 → vNode B n v s j = v j := fun j hj h9 => vNode_off (by unfold zAc at hj; omega) h9
  refine ⟨hW.addN hc e6 hag (by rw [r0]; exact h0) (by rw [r1]; exact h1) (by rw [r2]; exact h2) (by rw [r3]; exact h3) (by rw [r4, f6 _ (by omega) (by omega)]; omega) (fun i hi q => ?_), ⟨fun i hi => ?_, fun i hi => ?_, fun i hi => ?_⟩, fun j q1 q2 => ?_, fun j q1 q2 => ?_, fun j q1 q2 => ?_, ?_, ?_, ?_⟩
  · rw [r0] at q
    have : zAny (v 6) (fun i => v (10 + 12 * i + 0) == tN B n (nd3 B n v s).2.2) = true := zAny_iff.mpr ⟨i, hi, by rw [q]; exact beq_self_eq_true _⟩
    rw [hx] at this; cases this
  · rw [e6] at hi
    by_cases w : i < v 6
    · exact (hN.1 i w).ag (fun k hk => hag _ (Or.inr (Or.inl (by omega))) (by omega))
    · have : i = v 6 := by omega
      subst this
      exact zNam.let hb r6
  · rw [e7] at hi
    exact (hN.2.1 i hi).ag (fun k hk => hag _ (Or.inr (Or.inr (Or.inl (by omega)))) (by omega))
  · rw [e8] at hi
    exact (hN.2.2 i hi).ag (fun k hk => hag _ (Or.inr (Or.inr (Or.inr (Or.inl (by omega))))) (by omega))
  · rw [e6] at q1
    rw [vNode_off (by omega) (by omega)]
    exact f6 j (by omega) q2
  · rw [e7] at q1
    rw [vNode_off (by omega) (by omega)]
    exact f7 j q1 q2
  · rw [e8] at q1
    rw [vNode_off (by omega) (by omega)]
    exact f8 j q1 q2
  · rw [vNode_off (by omega) (by decide)]; exact z4
  · rw [vNode_off (by omega) (by decide)]; exact z5
  · rw [vNode_off (by omega) (by decide)]; exact z9
theorem tn6_ok (h : (tn6 B n v s).1 = 0) : s.1 = 0 ∧ v 7 < 6 ∧ sBadN B n (tn1 B n v s).2.2 = false ∧ (kfind v 1 B (tS B n (tn1 B n v s).2.2) (tE B n (tn1 B n v s).2.2)).isSome = false ∧ tN B n (tn3 B n v s).2.2 ≤ 999999 ∧ tN B n (tn5 B n v s).2.2 ≤ 999999 := by
  have q6 := sNum_ok h
  have q4 := sNum_ok (sTake_ok q6.1).1
  have q2 := (sErr_ok (by decide)).mp (sNext_ok.mp (sTake_ok q4.1).1)
  have q2b := (sErr_ok (by decide)).mp q2.1
  have q1 := (sErr_ok (by decide)).mp (sNext_ok.mp q2b.1)
  exact ⟨q1.1, by simpa using q1.2, q2b.2, q2.2, q4.2.2.2, q6.2.2.2⟩
theorem vTen_off {j : Nat} (h : j < 202 + 11 * v 7 ∨ 202 + 11 * v 7 + 11 ≤ j) (h6 : j ≠ 7) : vTen B n v s j = v j := by
  unfold vTen
  rw [vset_off (by omega), vset_off (by omega), vset_off (by omega), vlet_off (by omega)]
theorem vTen_7 : vTen B n v s 7 = v 7 + 1 := vset_at
theorem vTen_r (hc : v 7 < 6) : vTen B n v s (202 + 11 * v 7 + 0) = tN B n (tn3 B n v s).2.2 ∧ vTen B n v s (202 + 11 * v 7 + 1) = tN B n (tn5 B n v s).2.2 ∧ vTen B n v s (202 + 11 * v 7 + 2) = v (202 + 11 * v 7 + 2) ∧ vTen B n v s (202 + 11 * v 7 + 3) = v (202 + 11 * v 7 + 3) ∧ vTen B n v s (202 + 11 * v 7 + 4) = v (202 + 11 * v 7 + 4) ∧ ∀ k, k < 6 → vTen B n v s (202 + 11 * v 7 + 5 + k) = if k < tE B n (tn1 B n v s).2.2 - tS B n (tn1 B n v s).2.2 then zsn (B (tS B n (tn1 B n v s).2.2 + k)) else 0 := by
  unfold vTen
  refine ⟨?_, ?_, ?_, ?_, ?_, fun k hk => ?_⟩
  · rw [vset_off (by omega), vset_off (by omega), vset_at]
  · rw [vset_off (by omega), vset_at]
  · rw [vset_off (by omega), vset_off (by omega), vset_off (by omega), vlet_off (by omega)]
  · rw [vset_off (by omega), vset_off (by omega), vset_off (by omega), vlet_off (by omega)]
  · rw [vset_off (by omega), vset_off (by omega), vset_off (by omega), vlet_off (by omega)]
  · rw [vset_off (by omega), vset_off (by omega), vset_off (by omega), vlet_in hk]
theorem zPv.ten (hp : zPv v) (h : (tn6 B n v s).1 = 0) : zPv (vTen B n v s) := by
  obtain ⟨hW, hN, f6, f7, f8, z4, z5, z9⟩ := hp
  obtain ⟨-, hc, hb, hd, h0, h1⟩ := tn6_ok h
  obtain ⟨r0, r1, r2, r3, r4, r6⟩ := vTen_r (B := B) (n := n) (v := v) (s := s) hc
  have h6 := hW.nN
  have h8 := hW.gN
  have e7 : vTen B n v s 7 = v 7 + 1 := vTen_7
  have e6 : vTen B n v s 6 = v 6 := vTen_off (by omega) (by decide)
  have e8 : vTen B n v s 8 = v 8 := vTen_off (by omega) (by decide)
  have hag : ∀ j, zAc v j → j ≠ 7 → vTen B n v s j = v j := fun j hj h9 => vTen_off (by unfold zAc at hj; omega) h9
  refine ⟨hW.addT hc e7 hag (by rw [r0]; exact h0) (by rw [r1]; exact h1) (by rw [r2, f7 _ (by omega) (by omega)]; omega) (by rw [r4, f7 _ (by omega) (by omega)]; omega), ⟨fun i hi => ?_, fun i hi => ?_, fun i hi => ?_⟩, fun j q1 q2 => ?_, fun j q1 q2 => ?_, fun j q1 q2 => ?_, ?_, ?_, ?_⟩
  · rw [e6] at hi
    exact (hN.1 i hi).ag (fun k hk => hag _ (Or.inr (Or.inl (by omega))) (by omega))
  · rw [e7] at hi
    by_cases w : i < v 7
    · exact (hN.2.1 i w).ag (fun k hk => hag _ (Or.inr (Or.inr (Or.inl (by omega)))) (by omega))
    · have : i = v 7 := by omega
      subst this
      exact zNam.let hb r6
  · rw [e8] at hi
    exact (hN.2.2 i hi).ag (fun k hk => hag _ (Or.inr (Or.inr (Or.inr (Or.inl (by omega))))) (by omega))
  · rw [e6] at q1
    rw [vTen_off (by omega) (by omega)]
    exact f6 j q1 q2
  · rw [e7] at q1
    rw [vTen_off (by omega) (by omega)]
    exact f7 j (by omega) q2
  · rw [e8] at q1
    rw [vTen_off (by omega) (by omega)]
    exact f8 j q1 q2
  · rw [vTen_off (by omega) (by decide)]; exact z4
  · rw [vTen_off (by omega) (by decide)]; exact z5
  · rw [vTen_off (by omega) (by decide)]; exact z9
theorem gp14_ok (h : (gp14 B n v s).1 = 0) : s.1 = 0 ∧ v 8 < 10 ∧ sBadN B n (gp1 B n v s).2.2 = false ∧ (kfind v 2 B (tS B n (gp1 B n v s).2.2) (tE B n (gp1 B n v s).2.2)).isSome = false ∧ (∃ t, gpt B n v s = some t ∧ t < v 7) ∧ tN B n (gp5 B n v s).2.2 ≤ 9999 ∧ 1 ≤ tN B n (gp7 B n v s).2.2 ∧ tN B n (gp7 B n v s).2.2 ≤ 6 ∧ 1 ≤ tN B n (gp9 B n v s).2.2 ∧ tN B n (gp9 B n v s).2.2 ≤ 4 ∧ 1 ≤ tN B n (gp11 B n v s).2.2 ∧ tN B n (gp11 B n v s).2.2 ≤ 100 ∧ 1 ≤ tN B n (gp13 B n v s).2.2 ∧ tN B n (gp13 B n v s).2.2 ≤ 9999 := by
  have q14 := sNum_ok h
  have q12 := sNum_ok (sTake_ok q14.1).1
  have q10 := sNum_ok (sTake_ok q12.1).1
  have q8 := sNum_ok (sTake_ok q10.1).1
  have q6 := sNum_ok (sTake_ok q8.1).1
  have q4 := (sErr_ok (by decide)).mp (sNext_ok.mp (sTake_ok q6.1).1)
  have q3 := ((sErr_ok (by decide)).mp q4.1).1
  have q2 := (sErr_ok (by decide)).mp (sNext_ok.mp (sTake_ok q3).1)
  have q2b := (sErr_ok (by decide)).mp q2.1
  have q1 := (sErr_ok (by decide)).mp (sNext_ok.mp q2b.1)
  refine ⟨q1.1, by simpa using q1.2, q2b.2, q2.2, ?_, q6.2.2.2, q8.2.2.1, q8.2.2.2, q10.2.2.1, q10.2.2.2, q12.2.2.1, q12.2.2.2, q14.2.2.1, q14.2.2.2⟩
  cases ht : gpt B n v s with
  | none => have := q4.2; rw [ht] at this; cases this
  | some t => exact ⟨t, rfl, zfo_lt ht⟩
theorem vGrp_off {j : Nat} (h : j < 268 + 23 * v 8 ∨ 268 + 23 * v 8 + 23 ≤ j ∨ j = 268 + 23 * v 8 + 6 ∨ (268 + 23 * v 8 + 7 ≤ j ∧ j < 268 + 23 * v 8 + 17)) : vGrp B n v s j = v j := by
  unfold vGrp
  rw [vset_off (by omega), vset_off (by omega), vset_off (by omega), vset_off (by omega), vset_off (by omega), vset_off (by omega), vlet_off (by omega)]
theorem vGrp_r : vGrp B n v s (268 + 23 * v 8 + 0) = (gpt B n v s).getD 0 ∧ vGrp B n v s (268 + 23 * v 8 + 1) = tN B n (gp5 B n v s).2.2 ∧ vGrp B n v s (268 + 23 * v 8 + 2) = tN B n (gp7 B n v s).2.2 ∧ vGrp B n v s (268 + 23 * v 8 + 3) = tN B n (gp9 B n v s).2.2 ∧ vGrp B n v s (268 + 23 * v 8 + 4) = tN B n (gp11 B n v s).2.2 ∧ vGrp B n v s (268 + 23 * v 8 + 5) = tN B n (gp13 B n v s).2.2 ∧ ∀ k, k < 6 → vGrp B n v s (268 + 23 * v 8 + 17 + k) = if k < tE B n (gp1 B n v s).2.2 - tS B n (gp1 B n v s).2.2 then zsn (B (tS B n (gp1 B n v s).2.2 + k)) else 0 := by
  unfold vGrp
  refine ⟨?_, ?_, ?_, ?_, ?_, ?_, fun k hk => ?_⟩
  · rw [vset_off (by omega), vset_off (by omega), vset_off (by omega), vset_off (by omega), vset_off (by omega), vset_at]
  · rw [vset_off (by omega), vset_off (by omega), vset_off (by omega), vset_off (by omega), vset_at]
  · rw [vset_off (by omega), vset_off (by omega), vset_off (by omega), vset_at]
  · rw [vset_off (by omega), vset_off (by omega), vset_at]
  · rw [vset_off (by omega), vset_at]
  · rw [vset_at]
  · rw [vset_off (by omega), vset_off (by omega), vset_off (by omega), vset_off (by omega), vset_off (by omega), vset_off (by omega), vlet_in hk]
theorem vGrp_q (hp : zPv v) (h : (gp14 B n v s).1 = 0) : zPq (vGrp B n v s) (v 8) := by
  obtain ⟨-, hc, -, -, -, h1, h2, h2', h3, h3', -⟩ := gp14_ok h
  obtain ⟨r0, r1, r2, r3, -⟩ := vGrp_r (B := B) (n := n) (v := v) (s := s)
  have h6 := hp.1.nN
  have h7 := hp.1.tN
  refine ⟨hp.1.ag (fun j hj => vGrp_off (by unfold zAc at hj; omega)), vGrp_off (by omega), hc, ?_, by rw [r1]; exact h1⟩
  show vGrp B n v s (268 + 23 * v 8 + 2) + vGrp B n v s (268 + 23 * v 8 + 3) ≤ 10
  rw [r2, r3]
  omega
/-- a group's shards placed: the state behind -/
theorem vGrpF_is {u : zV} {p : Nat} (h : plS (vGrp B n v s) (v 8) (vsh (vGrp B n v s) (v 8)) = some (u, p)) : vGrpF B n v s = vset u 8 (v 8 + 1) := by
  unfold vGrpF
  rw [h]
theorem zPv.grp (hp : zPv v) (h : (gp14 B n v s).1 = 0) {u : zV} {p : Nat} (hs : plS (vGrp B n v s) (v 8) (vsh (vGrp B n v s) (v 8)) = some (u, p)) : zPv (vGrpF B n v s) := by
  rw [vGrpF_is hs]
  have hq := vGrp_q hp h
  obtain ⟨hu, hu2, hu3, hu4⟩ := plS_inv hq _ u p hs
  obtain ⟨-, hc, hb, hd, ⟨t, ht, htl⟩, h1, h2, h2', h3, h3', h4, h4', h5, h5'⟩ := gp14_ok h
  obtain ⟨r0, r1, r2, r3, r4, r5, r6⟩ := vGrp_r (B := B) (n := n) (v := v) (s := s)
  have hsh := hq.2.2.2.1
  obtain ⟨hW, hN, f6, f7, f8, z4, z5, z9⟩ := hp
  have h6 := hW.nN
  have h7 := hW.tN
  rw [ht] at r0
  have r0 : vGrp B n v s (268 + 23 * v 8 + 0) = t := r0
  have key : ∀ j, j ≠ 8 → ¬ (268 + 23 * v 8 + 7 ≤ j ∧ j < 268 + 23 * v 8 + 17) → vset u 8 (v 8 + 1) j = vGrp B n v s j := fun j a b => by rw [vset_off a]; exact hu j (by omega)
  have kv : ∀ j, j ≠ 8 → (j < 268 + 23 * v 8 ∨ 268 + 23 * v 8 + 23 ≤ j) → vset u 8 (v 8 + 1) j = v j := fun j a b => by rw [key j a (by omega)]; exact vGrp_off (by omega)
  have e8 : vset u 8 (v 8 + 1) 8 = v 8 + 1 := vset_at
  have e6 : vset u 8 (v 8 + 1) 6 = v 6 := kv 6 (by decide) (by omega)
  have e7 : vset u 8 (v 8 + 1) 7 = v 7 := kv 7 (by decide) (by omega)
  have hag : ∀ j, zAc v j → j ≠ 8 → vset u 8 (v 8 + 1) j = v j := fun j hj h9 => kv j h9 (by unfold zAc at hj; omega)
  have eh : ∀ s9, hol (vset u 8 (v 8 + 1)) (v 8) s9 = hol u (v 8) s9 := fun s9 => vset_off (by omega)
  have es : vsh (vset u 8 (v 8 + 1)) (v 8) = vsh (vGrp B n v s) (v 8) := by
    show vset u 8 (v 8 + 1) (268 + 23 * v 8 + 2) + vset u 8 (v 8 + 1) (268 + 23 * v 8 + 3) = vGrp B n v s (268 + 23 * v 8 + 2) + vGrp B n v s (268 + 23 * v 8 + 3)
    rw [key _ (by omega) (by omega), key _ (by omega) (by omega)]
  have e6g : vGrp B n v s 6 = v 6 := vGrp_off (by omega)
  have e6p : vGrp B n v s (268 + 23 * v 8 + 6) = 0 := by rw [vGrp_off (by omega)]; exact f8 _ (by omega) (by omega)
  refine ⟨hW.addG hc e8 hag ?_ ?_ ?_, ⟨fun i hi => ?_, fun i hi => ?_, fun i hi => ?_⟩, fun j q1 q2 => ?_, fun j q1 q2 => ?_, fun j q1 q2 => ?_, ?_, ?_, ?_⟩
  · rw [key _ (by omega) (by omega), key _ (by omega) (by omega), key _ (by omega) (by omega), key _ (by omega) (by omega), key _ (by omega) (by omega), key _ (by omega) (by omega), key _ (by omega) (by omega), r0, r1, r2, r3, r4, r5, e6p]
    omega
  · intro s9 hs9
    rw [es] at hs9
    rw [eh]
    have := hu2 s9 hs9
    rw [e6g] at this
    exact this
  · intro s9 t9 a b e
    rw [es] at a b
    rw [eh, eh] at e
    exact hu3 s9 t9 a b e
  · rw [e6] at hi
    exact (hN.1 i hi).ag (fun k hk => hag _ (Or.inr (Or.inl (by omega))) (by omega))
  · rw [e7] at hi
    exact (hN.2.1 i hi).ag (fun k hk => hag _ (Or.inr (Or.inr (Or.inl (by omega)))) (by omega))
  · rw [e8] at hi
    by_cases w : i < v 8
    · exact (hN.2.2 i w).ag (fun k hk => hag _ (Or.inr (Or.inr (Or.inr (Or.inl (by omega))))) (by omega))
    · have : i = v 8 := by omega
      subst this
      exact zNam.let hb (fun k hk => by rw [key _ (by omega) (by omega)]; exact r6 k hk)
  · rw [e6] at q1
    rw [kv j (by omega) (by omega)]
    exact f6 j q1 q2
  · rw [e7] at q1
    rw [kv j (by omega) (by omega)]
    exact f7 j q1 q2
  · rw [e8] at q1
    rw [kv j (by omega) (by omega)]
    exact f8 j (by omega) q2
  · rw [kv 4 (by decide) (by omega)]; exact z4
  · rw [kv 5 (by decide) (by omega)]; exact z5
  · rw [kv 9 (by decide) (by omega)]; exact z9
theorem rg9_ok (h : (rg9 B n s).1 = 0) : s.1 = 0 ∧ 1 ≤ tN B n (rg2 B n s).2.2 ∧ tN B n (rg2 B n s).2.2 ≤ 99999 ∧ tN B n (rg4 B n s).2.2 ≤ 99999 ∧ tN B n (rg6 B n s).2.2 ≤ 9999 := by
  have q8 := ((sErr_ok (by decide)).mp (sNext_ok.mp h)).1
  have q7 := sNum_ok (sTake_ok q8).1
  have q5 := sNum_ok (sTake_ok q7.1).1
  have q3 := sNum_ok (sTake_ok q5.1).1
  have q1 := (sTake_ok (sTake_ok q3.1).1).1
  exact ⟨q1, q3.2.2.1, q3.2.2.2, q5.2.2.2, q7.2.2.2⟩
theorem vRul_le {e : Nat} : vRul B n e ≤ 2 := by unfold vRul; split; omega; split <;> omega
theorem vRing_off {j : Nat} (h : 4 ≤ j) : vRing B n v s j = v j := by
  unfold vRing
  rw [vset_off (by omega), vset_off (by omega), vset_off (by omega), vset_off (by omega)]
theorem zPv.ring (hv : ∀ j, v j = 0) (h : (rg9 B n s).1 = 0) : zPv (vRing B n v s) := by
  obtain ⟨-, -, h1, h2, h3⟩ := rg9_ok h
  have e : ∀ j, 4 ≤ j → vRing B n v s j = 0 := fun j hj => by rw [vRing_off hj]; exact hv j
  have e0 : vRing B n v s 0 = tN B n (rg2 B n s).2.2 := by
    unfold vRing
    rw [vset_off (by omega), vset_off (by omega), vset_off (by omega), vset_at]
  have e1 : vRing B n v s 1 = tN B n (rg4 B n s).2.2 := by
    unfold vRing
    rw [vset_off (by omega), vset_off (by omega), vset_at]
  have e2 : vRing B n v s 2 = tN B n (rg6 B n s).2.2 := by
    unfold vRing
    rw [vset_off (by omega), vset_at]
  have e3 : vRing B n v s 3 = vRul B n (rg8 B n s).2.2 := vset_at
  have e6 := e 6 (by decide)
  have e7 := e 7 (by decide)
  have e8 := e 8 (by decide)
  have e9 := e 9 (by decide)
  refine ⟨⟨by rw [e0]; exact h1, by rw [e1]; exact h2, by rw [e2]; exact h3, by rw [e3]; exact vRul_le, by rw [e 4 (by decide)]; omega, by rw [e6]; omega, by rw [e7]; omega, by rw [e8]; omega, by rw [e9]; omega, ?_, ?_, ?_, ?_, ?_, ?_, ?_⟩, ⟨?_, ?_, ?_⟩, fun j q1 q2 => e j (by omega), fun j q1 q2 => e j (by omega), fun j q1 q2 => e j (by omega), e 4 (by decide), e 5 (by decide), e9⟩
  · intro i hi; rw [e6] at hi; omega
  · intro i j hi; rw [e6] at hi; omega
  · intro i hi; rw [e7] at hi; omega
  · intro i hi; rw [e8] at hi; omega
  · intro i j hi; rw [e8] at hi; omega
  · intro i j t hi; rw [e8] at hi; omega
  · intro i hi; rw [e9] at hi; omega
  · intro i hi; rw [e6] at hi; omega
  · intro i hi; rw [e7] at hi; omega
  · intro i hi; rw [e8] at hi; omega
end PV
