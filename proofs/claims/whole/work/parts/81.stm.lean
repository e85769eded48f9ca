/-! WHAT THE PARSER'S STATEMENTS DO -/
/-- the numbers that count in a state -/
def zAc (v : zV) (j : Nat) : Prop := j < 10 ∨ (10 ≤ j ∧ j < 10 + 12 * v 6) ∨ (202 ≤ j ∧ j < 202 + 11 * v 7) ∨ (268 ≤ j ∧ j < 268 + 23 * v 8) ∨ (498 ≤ j ∧ j < 498 + 5 * v 9)
theorem zWF.ag {v v' : zV} (hW : zWF v) (h : ∀ j, zAc v j → v' j = v j) : zWF v' := by
  have hn6 := hW.nN
  have hn7 := hW.tN
  have hn8 := hW.gN
  have hn9 := hW.hN
  have e : ∀ i, i < 10 → v' i = v i := fun i hi => h i (Or.inl hi)
  have e6 := e 6 (by decide)
  have e7 := e 7 (by decide)
  have e8 := e 8 (by decide)
  have e9 := e 9 (by decide)
  have en : ∀ m c, m < v 6 → c < 12 → v' (10 + 12 * m + c) = v (10 + 12 * m + c) := fun m c hm hc => h _ (Or.inr (Or.inl (by omega)))
  have et : ∀ m c, m < v 7 → c < 11 → v' (202 + 11 * m + c) = v (202 + 11 * m + c) := fun m c hm hc => h _ (Or.inr (Or.inr (Or.inl (by omega))))
  have eg : ∀ m c, m < v 8 → c < 23 → v' (268 + 23 * m + c) = v (268 + 23 * m + c) := fun m c hm hc => h _ (Or.inr (Or.inr (Or.inr (Or.inl (by omega)))))
  have ep : ∀ m c, m < v 9 → c < 5 → v' (498 + 5 * m + c) = v (498 + 5 * m + c) := fun m c hm hc => h _ (Or.inr (Or.inr (Or.inr (Or.inr (by omega)))))
  have hsh : ∀ g, g < v 8 → vsh v g ≤ 10 := fun g hg => (hW.sh hg).2
  have eS : ∀ g, g < v 8 → vsh v' g = vsh v g := fun g hg => (vcost_vg (fun c hc => eg g c hg (by omega))).2
  obtain ⟨h0, h1, h2, h3, h4, h6, h7, h8, h9, hnn, ha, ht, hg, hh, hi, hk⟩ := hW
  refine ⟨by rw [e 0 (by decide)]; exact h0, by rw [e 1 (by decide)]; exact h1, by rw [e 2 (by decide)]; exact h2, by rw [e 3 (by decide)]; exact h3, by rw [e 4 (by decide)]; exact h4, by rw [e6]; exact h6, by rw [e7]; exact h7, by rw [e8]; exact h8, by rw [e9]; exact h9, ?_, ?_, ?_, ?_, ?_, ?_, ?_⟩
  · intro m q
    rw [e6] at q
    simp only [nd]
    rw [en m 0 q (by decide), en m 1 q (by decide), en m 2 q (by decide), en m 3 q (by decide), en m 4 q (by decide)]
    exact hnn m q
  · intro m l q q2 w
    rw [e6] at q q2
    simp only [nd] at w
    rw [en m 0 q (by decide), en l 0 q2 (by decide)] at w
    exact ha m l q q2 w
  · intro t q
    rw [e7] at q
    simp only [tn]
    rw [et t 0 q (by decide), et t 1 q (by decide), et t 2 q (by decide), et t 4 q (by decide)]
    exact ht t q
  · intro g q
    rw [e8] at q
    simp only [gp]
    rw [eg g 0 q (by decide), eg g 1 q (by decide), eg g 2 q (by decide), eg g 3 q (by decide), eg g 4 q (by decide), eg g 5 q (by decide), eg g 6 q (by decide), e7]
    exact hg g q
  · intro g j q q2
    rw [e8] at q
    rw [eS g q] at q2
    have := hsh g q
    show v' (268 + 23 * g + (7 + j)) < v' 6
    rw [e6, eg g _ q (by omega)]; exact hh g j q q2
  · intro g j t q q2 q3 w
    rw [e8] at q
    rw [eS g q] at q2 q3
    have := hsh g q
    simp only [hol, gp] at w
    rw [eg g _ q (by omega), eg g _ q (by omega)] at w
    exact hi g j t q q2 q3 w
  · intro k q
    rw [e9] at q
    simp only [hs]
    rw [ep k 2 q (by decide)]
    exact hk k q
theorem zNam.ag {v v' : zV} {b : Nat} (h : zNam v b) (e : ∀ k, k < 6 → v' (b + k) = v (b + k)) : zNam v' b := by
  obtain ⟨L, h1, h6, hL, h0⟩ := h
  exact ⟨L, h1, h6, fun k hk => by rw [e k (by omega)]; exact hL k hk, fun k h2 h3 => by rw [e k h3]; exact h0 k h2 h3⟩
theorem zNmS.ag {v v' : zV} (hN : zNmS v) (h : ∀ j, zAc v j → v' j = v j) : zNmS v' := by
  have e6 := h 6 (Or.inl (by decide))
  have e7 := h 7 (Or.inl (by decide))
  have e8 := h 8 (Or.inl (by decide))
  refine ⟨fun i hi => ?_, fun i hi => ?_, fun i hi => ?_⟩
  · rw [e6] at hi
    exact (hN.1 i hi).ag (fun k hk => h _ (Or.inr (Or.inl (by omega))))
  · rw [e7] at hi
    exact (hN.2.1 i hi).ag (fun k hk => h _ (Or.inr (Or.inr (Or.inl (by omega)))))
  · rw [e8] at hi
    exact (hN.2.2 i hi).ag (fun k hk => h _ (Or.inr (Or.inr (Or.inr (Or.inl (by omega))))))
theorem vname_ag {v v' : zV} {b : Nat} (e : ∀ k, k < 6 → v' (b + k) = v (b + k)) : vname v' b = vname v b := vname_eq e
theorem kfind_ag {v v' : zV} {kd : Nat} {B : Nat → Nat} {f t : Nat} (hk : kd ≤ 2) (h : ∀ j, zAc v j → v' j = v j) : kfind v' kd B f t = kfind v kd B f t := by
  have e : v' (6 + kd) = v (6 + kd) := h _ (Or.inl (by omega))
  unfold kfind
  rw [e]
  refine zfo_congr (fun r hr => ?_)
  rw [vname_ag (v := v) (v' := v') (fun k hk2 => h _ ?_)]
  unfold zAc kbase
  rcases (show kd = 0 ∨ kd = 1 ∨ kd = 2 by omega) with rfl | rfl | rfl
  · have hr' : r < v 6 := hr
    rw [if_pos rfl]; omega
  · have hr' : r < v 7 := hr
    rw [if_neg (by decide), if_pos rfl]; omega
  · have hr' : r < v 8 := hr
    rw [if_neg (by decide), if_neg (by decide)]; omega
theorem vlet_off {v : zV} {a : Nat} {B : Nat → Nat} {f t j : Nat} (h : j < a ∨ a + 6 ≤ j) : vlet v a B f t j = v j := by
  unfold vlet
  rw [if_neg (by omega)]
theorem sTake_ok {B : Nat → Nat} {n i : Nat} {s : zS} (h : (sTake B n i s).1 = 0) : s.1 = 0 ∧ sAt B n s.2.2 i = true := by
  have h1 := (sErr_ok (by decide)).mp (sNext_ok.mp h)
  exact ⟨h1.1, by have := h1.2; simpa using this⟩
theorem sNumE_ok {B : Nat → Nat} {n lo hi : Nat} {s : zS} (h : (sNumE B n lo hi s).1 = 0) : s.1 = 0 ∧ tK B n s.2.2 = 2 ∧ lo ≤ tN B n s.2.2 ∧ tN B n s.2.2 ≤ hi := sNum_ok (sNext_ok.mpr h)
theorem sNumE_id {B : Nat → Nat} {n lo hi : Nat} {s : zS} (h : (sNumE B n lo hi s).1 = 0) : sNumE B n lo hi s = s := by
  obtain ⟨h1, h2, h3, h4⟩ := sNumE_ok h
  unfold sNumE
  rw [if_pos h2, sErr_eq (by rw [decide_eq_true h3, decide_eq_true h4]; rfl)]
/-! a node -/
section ND
variable (B : Nat → Nat) (n : Nat) (v : zV) (s : zS)
def nd1 : zS := sNext B n (sErr 4 B n (!decide (v 6 < 16)) s)
def nd2e : zS := sErr 3 B n (kfind v 0 B (tS B n (nd1 B n v s).2.2) (tE B n (nd1 B n v s).2.2)).isSome (sErr 1 B n (sBadN B n (nd1 B n v s).2.2) (nd1 B n v s))
def nd2 : zS := sNext B n (nd2e B n v s)
def nd3 : zS := sTake B n 9 (nd2 B n v s)
def nd4e : zS := sErr 3 B n (zAny (v 6) (fun i => v (10 + 12 * i + 0) == tN B n (nd3 B n v s).2.2)) (sNumE B n 0 9999 (nd3 B n v s))
def nd4 : zS := sNext B n (nd4e B n v s)
def nd5 : zS := sTake B n 10 (nd4 B n v s)
def nd6 : zS := sNum B n 0 9 (nd5 B n v s)
def nd7 : zS := sTake B n 11 (nd6 B n v s)
def nd8 : zS := sNum B n 0 999 (nd7 B n v s)
def nd9 : zS := sTake B n 12 (nd8 B n v s)
def nd10 : zS := sNum B n 1 50 (nd9 B n v s)
def vNode : zV := vset (vset (vset (vset (vset (vlet v (10 + 12 * v 6 + 6) B (tS B n (nd1 B n v s).2.2) (tE B n (nd1 B n v s).2.2)) (10 + 12 * v 6 + 0) (tN B n (nd3 B n v s).2.2)) (10 + 12 * v 6 + 1) (tN B n (nd5 B n v s).2.2)) (10 + 12 * v 6 + 2) (tN B n (nd7 B n v s).2.2)) (10 + 12 * v 6 + 3) (tN B n (nd9 B n v s).2.2)) 6 (v 6 + 1)
/-! a tenant -/
def tn1 : zS := sNext B n (sErr 4 B n (!decide (v 7 < 6)) s)
def tn2e : zS := sErr 3 B n (kfind v 1 B (tS B n (tn1 B n v s).2.2) (tE B n (tn1 B n v s).2.2)).isSome (sErr 1 B n (sBadN B n (tn1 B n v s).2.2) (tn1 B n v s))
def tn2 : zS := sNext B n (tn2e B n v s)
def tn3 : zS := sTake B n 14 (tn2 B n v s)
def tn4 : zS := sNum B n 0 999999 (tn3 B n v s)
def tn5 : zS := sTake B n 15 (tn4 B n v s)
def tn6 : zS := sNum B n 0 999999 (tn5 B n v s)
def vTen : zV := vset (vset (vset (vlet v (202 + 11 * v 7 + 5) B (tS B n (tn1 B n v s).2.2) (tE B n (tn1 B n v s).2.2)) (202 + 11 * v 7 + 0) (tN B n (tn3 B n v s).2.2)) (202 + 11 * v 7 + 1) (tN B n (tn5 B n v s).2.2)) 7 (v 7 + 1)
/-! a group -/
def gp1 : zS := sNext B n (sErr 4 B n (!decide (v 8 < 10)) s)
def gp2e : zS := sErr 3 B n (kfind v 2 B (tS B n (gp1 B n v s).2.2) (tE B n (gp1 B n v s).2.2)).isSome (sErr 1 B n (sBadN B n (gp1 B n v s).2.2) (gp1 B n v s))
def gp2 : zS := sNext B n (gp2e B n v s)
def gp3 : zS := sTake B n 17 (gp2 B n v s)
def gp4c : zS := sErr 1 B n (sBadN B n (gp3 B n v s).2.2) (gp3 B n v s)
def gpt : Option Nat := kfind v 1 B (tS B n (gp3 B n v s).2.2) (tE B n (gp3 B n v s).2.2)
def gp4e : zS := sErr 3 B n (gpt B n v s).isNone (gp4c B n v s)
def gp4 : zS := sNext B n (gp4e B n v s)
def gp5 : zS := sTake B n 18 (gp4 B n v s)
def gp6 : zS := sNum B n 0 9999 (gp5 B n v s)
def gp7 : zS := sTake B n 19 (gp6 B n v s)
def gp8 : zS := sNum B n 1 6 (gp7 B n v s)
def gp9 : zS := sTake B n 20 (gp8 B n v s)
def gp10 : zS := sNum B n 1 4 (gp9 B n v s)
def gp11 : zS := sTake B n 21 (gp10 B n v s)
def gp12 : zS := sNum B n 1 100 (gp11 B n v s)
def gp13 : zS := sTake B n 22 (gp12 B n v s)
def gp14 : zS := sNum B n 1 9999 (gp13 B n v s)
/-- the group's numbers laid, no shard yet -/
def vGrp : zV := vset (vset (vset (vset (vset (vset (vlet v (268 + 23 * v 8 + 17) B (tS B n (gp1 B n v s).2.2) (tE B n (gp1 B n v s).2.2)) (268 + 23 * v 8 + 0) ((gpt B n v s).getD 0)) (268 + 23 * v 8 + 1) (tN B n (gp5 B n v s).2.2)) (268 + 23 * v 8 + 2) (tN B n (gp7 B n v s).2.2)) (268 + 23 * v 8 + 3) (tN B n (gp9 B n v s).2.2)) (268 + 23 * v 8 + 4) (tN B n (gp11 B n v s).2.2)) (268 + 23 * v 8 + 5) (tN B n (gp13 B n v s).2.2)
/-! the ring -/
def rg1 : zS := sTake B n 0 s
def rg2 : zS := sTake B n 1 (rg1 B n s)
def rg3 : zS := sNum B n 1 99999 (rg2 B n s)
def rg4 : zS := sTake B n 2 (rg3 B n s)
def rg5 : zS := sNum B n 0 99999 (rg4 B n s)
def rg6 : zS := sTake B n 3 (rg5 B n s)
def rg7 : zS := sNum B n 0 9999 (rg6 B n s)
def rg8 : zS := sTake B n 4 (rg7 B n s)
def rg9 : zS := sRul B n (rg8 B n s)
def vRing : zV := vset (vset (vset (vset v 0 (tN B n (rg2 B n s).2.2)) 1 (tN B n (rg4 B n s).2.2)) 2 (tN B n (rg6 B n s).2.2)) 3 (vRul B n (rg8 B n s).2.2)
end ND
/-! the shards of a new group -/
def plS (v : zV) (g : Nat) : Nat → Option (zV × Nat)
  | 0 => some (v, v (268 + 23 * g + 1))
  | k + 1 => match plS v g k with
    | none => none
    | some (u, p) => match (if u 6 = 0 then none else vplace u g k k (-1) p) with
      | none => none
      | some m => some (vset u (268 + 23 * g + 7 + k) m, u (10 + 12 * m + 0) + 1)
theorem plS_succ {v u : zV} {g k p m : Nat} (h : plS v g k = some (u, p)) (h0 : 0 < u 6) (hm : vplace u g k k (-1) p = some m) : plS v g (k + 1) = some (vset u (268 + 23 * g + 7 + k) m, u (10 + 12 * m + 0) + 1) := by
  show (match plS v g k with
    | none => none
    | some (u, p) => match (if u 6 = 0 then none else vplace u g k k (-1) p) with
      | none => none
      | some m => some (vset u (268 + 23 * g + 7 + k) m, u (10 + 12 * m + 0) + 1)) = _
  rw [h]
  dsimp only
  rw [if_neg (by omega), hm]
theorem plS_fail {v u : zV} {g k p : Nat} (h : plS v g k = some (u, p)) (hm : u 6 = 0 ∨ vplace u g k k (-1) p = none) : plS v g (k + 1) = none := by
  show (match plS v g k with
    | none => none
    | some (u, p) => match (if u 6 = 0 then none else vplace u g k k (-1) p) with
      | none => none
      | some m => some (vset u (268 + 23 * g + 7 + k) m, u (10 + 12 * m + 0) + 1)) = _
  rw [h]
  dsimp only
  by_cases q : u 6 = 0
  · rw [if_pos q]
  · rw [if_neg q, hm.resolve_left q]
theorem plS_none {v : zV} {g k : Nat} (h : plS v g k = none) : ∀ m, k ≤ m → plS v g m = none := by
  intro m
  induction m with
  | zero => intro hm; have : k = 0 := by omega
            subst this; exact h
  | succ m ih =>
    intro hm
    rcases Nat.lt_or_ge k (m + 1) with q | q
    · show (match plS v g m with
        | none => none
        | some (u, p) => match (if u 6 = 0 then none else vplace u g m m (-1) p) with
          | none => none
          | some m9 => some (vset u (268 + 23 * g + 7 + m) m9, u (10 + 12 * m9 + 0) + 1)) = _
      rw [ih (by omega)]
    · have : k = m + 1 := by omega
      subst this; exact h
/-- a new group's numbers are in their bounds -/
def zPq (v : zV) (g : Nat) : Prop := zWF v ∧ v 8 = g ∧ g < 10 ∧ vsh v g ≤ 10 ∧ v (268 + 23 * g + 1) ≤ 9999
def zPi (v : zV) (g k : Nat) (u : zV) (p : Nat) : Prop := (∀ j, ¬ (268 + 23 * g + 7 ≤ j ∧ j < 268 + 23 * g + 7 + k) → u j = v j) ∧ (∀ s, s < k → hol u g s < v 6) ∧ (∀ s t, s < k → t < k → hol u g s = hol u g t → s = t) ∧ p ≤ 10000
theorem plS_inv {v : zV} {g : Nat} (hq : zPq v g) : ∀ k u p, plS v g k = some (u, p) → zPi v g k u p := by
  intro k
  induction k with
  | zero =>
    intro u p h
    cases h
    exact ⟨fun _ _ => rfl, fun s hs => absurd hs (by omega), fun s t hs => absurd hs (by omega), by have := hq.2.2.2.2; omega⟩
  | succ k ih =>
    intro u' p' h
    cases hk : plS v g k with
    | none => rw [plS_none hk (k + 1) (by omega)] at h; cases h
    | some up =>
      obtain ⟨u, p⟩ := up
      obtain ⟨i1, i2, i3, i4⟩ := ih u p hk
      have e6 : u 6 = v 6 := i1 6 (by omega)
      rcases Nat.eq_zero_or_pos (u 6) with q | q
      · rw [plS_fail hk (Or.inl q)] at h; cases h
      · cases hm : vplace u g k k (-1) p with
        | none => rw [plS_fail hk (Or.inr hm)] at h; cases h
        | some m =>
          rw [plS_succ hk q hm] at h
          have hm6 : m < v 6 := by have := vplace_lt hm; omega
          have hc := vplace_can hm
          have hhas : vhas u g k m = false := by
            cases w : vhas u g k m
            · rfl
            · rw [vcan_f2 w] at hc; cases hc
          cases h
          have hn0 : u (10 + 12 * m + 0) ≤ 9999 := by
            rw [i1 _ (by have := hq.1.nN; omega)]
            exact (hq.1.node hm6).1
          have ek : ∀ s, s < k → hol (vset u (268 + 23 * g + 7 + k) m) g s = hol u g s := fun s hs => vset_off (by omega)
          have em : hol (vset u (268 + 23 * g + 7 + k) m) g k = m := by
            show vset u (268 + 23 * g + 7 + k) m (268 + 23 * g + (7 + k)) = m
            rw [← Nat.add_assoc, vset_at]
          refine ⟨fun j hj => ?_, fun s hs => ?_, fun s t hs ht e => ?_, by omega⟩
          · rw [vset_off (by omega)]
            exact i1 j (by omega)
          · by_cases w : s = k
            · subst w; rw [em]; exact hm6
            · rw [ek s (by omega)]; exact i2 s (by omega)
          · by_cases w : s = k
            · by_cases w2 : t = k
              · omega
              · rw [w, em, ek t (by omega)] at e
                exact absurd e.symm (vhas_f hhas (show t < k by omega))
            · by_cases w2 : t = k
              · rw [w2, em, ek s (by omega)] at e
                exact absurd e (vhas_f hhas (show s < k by omega))
              · rw [ek s (by omega), ek t (by omega)] at e
                exact i3 s t (by omega) (by omega) e
theorem zPi.ac {v u : zV} {g k p : Nat} (h : zPi v g k u p) (hq : zPq v g) (hk : k ≤ 10) : ∀ j, zAc v j → u j = v j := fun j hj => h.1 j (by unfold zAc at hj; have := hq.2.1; have := hq.2.2.1; have := hq.1.nN; have := hq.1.tN; omega)
theorem zPi.wf {v u : zV} {g k p : Nat} (h : zPi v g k u p) (hq : zPq v g) (hk : k ≤ 10) : zWF u := hq.1.ag (h.ac hq hk)
theorem zPi.sh {v u : zV} {g k p : Nat} (h : zPi v g k u p) : vsh u g = vsh v g := (vcost_vg (fun c hc => h.1 _ (by omega))).2
theorem von_le {v : zV} {g few n : Nat} : von v g few n ≤ vcnt v (v 8) n + few := by
  have key : ∀ k a, zFor k (fun s a => if hol v g s = n then a + 1 else a) a ≤ a + k := by
    intro k
    induction k with
    | zero => intro a; exact Nat.le_refl _
    | succ k ih =>
      intro a
      rw [zFor_succ]
      have := ih a
      split <;> omega
  exact key few _
theorem von_lt {v : zV} (hW : zWF v) {g few n : Nat} (hf : few ≤ 10) : von v g few n < 2 ^ 31 := by
  have h1 := von_le (v := v) (g := g) (few := few) (n := n)
  have h2 := vcnt_le (v := v) (k := v 8) (n := n) (fun g hg => (hW.sh hg).2)
  have h3 := hW.gN
  omega
