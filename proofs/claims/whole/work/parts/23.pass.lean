/-! A ROUND PASSES: what it does to the numbers -/
theorem vset_at {v : zV} {j x : Nat} : vset v j x j = x := if_pos rfl
theorem vset_off {v : zV} {j x i : Nat} (h : i ≠ j) : vset v j x i = v i := if_neg h
def vgrow (v : zV) (k : Nat) : zV := zFor k (fun t s => vset s (202 + 11 * t + 2) (vgrown s t)) v
def vpay1 (v s : zV) (k : Nat) : zV := vset (vset (vset s (202 + 11 * vten v 0 k + 2) (s (202 + 11 * vten v 0 k + 2) - vpayd v 0 k)) (202 + 11 * vten v 0 k + 3) (s (202 + 11 * vten v 0 k + 3) + vunits v 0 k)) (202 + 11 * vten v 0 k + 4) (min 2000000000 (s (202 + 11 * vten v 0 k + 4) + vpayd v 0 k))
def vpays (v : zV) (k : Nat) : zV := zFor k (fun k s => vpay1 v s k) (vgrow v (v 7))
theorem vgrow_succ (v : zV) (k : Nat) : vgrow v (k + 1) = vset (vgrow v k) (202 + 11 * k + 2) (vgrown (vgrow v k) k) := rfl
theorem vpays_succ (v : zV) (k : Nat) : vpays v (k + 1) = vpay1 v (vpays v k) k := rfl
theorem vgrow_off {v : zV} {k i : Nat} (h : ∀ t, t < k → i ≠ 202 + 11 * t + 2) : vgrow v k i = v i := by
  induction k with
  | zero => rfl
  | succ k ih =>
    rw [vgrow_succ, vset_off (h k (by omega))]
    exact ih (fun t ht => h t (by omega))
theorem vgrow_far {v : zV} {k i : Nat} (hk : k ≤ 6) (h : i < 202 ∨ 268 ≤ i) : vgrow v k i = v i := vgrow_off (fun t ht => by omega)
theorem vgrow_c {v : zV} {k t c : Nat} (hc : c < 11) (h : c ≠ 2) : vgrow v k (202 + 11 * t + c) = v (202 + 11 * t + c) := vgrow_off (fun t' ht => by omega)
theorem vgrown_at (v : zV) (k t : Nat) (h : k ≤ t) : vgrown (vgrow v k) t = vgrown v t := by
  unfold vgrown
  have e2 : tn (vgrow v k) t 2 = tn v t 2 := vgrow_off (fun t' ht => by omega)
  have e1 : tn (vgrow v k) t 1 = tn v t 1 := vgrow_c (by decide) (by decide)
  have e0 : tn (vgrow v k) t 0 = tn v t 0 := vgrow_c (by decide) (by decide)
  rw [e2, e1, e0]
theorem vgrow_at {v : zV} {k t : Nat} (h : t < k) : vgrow v k (202 + 11 * t + 2) = vgrown v t := by
  induction k with
  | zero => omega
  | succ k ih =>
    rw [vgrow_succ]
    rcases Nat.lt_or_ge t k with q | q
    · rw [vset_off (by omega)]; exact ih q
    · have : t = k := by omega
      subst this
      rw [vset_at]; exact vgrown_at v t t (Nat.le_refl _)
theorem vpay1_off {v s : zV} {k i : Nat} (h : ¬ (202 + 11 * vten v 0 k + 2 ≤ i ∧ i ≤ 202 + 11 * vten v 0 k + 4)) : vpay1 v s k i = s i := by
  unfold vpay1
  rw [vset_off (by omega), vset_off (by omega), vset_off (by omega)]
theorem vpay1_2 {v s : zV} {k : Nat} : vpay1 v s k (202 + 11 * vten v 0 k + 2) = s (202 + 11 * vten v 0 k + 2) - vpayd v 0 k := by
  unfold vpay1
  rw [vset_off (by omega), vset_off (by omega), vset_at]
theorem vpay1_4 {v s : zV} {k : Nat} : vpay1 v s k (202 + 11 * vten v 0 k + 4) = min 2000000000 (s (202 + 11 * vten v 0 k + 4) + vpayd v 0 k) := by
  unfold vpay1
  rw [vset_at]
theorem vpays_far {v : zV} (hW : zWF v) {k i : Nat} (hk : k ≤ (vord v 0).1) (h : i < 202 ∨ 268 ≤ i) : vpays v k i = v i := by
  induction k with
  | zero => exact vgrow_far hW.tN h
  | succ k ih =>
    have := (vbidder hW (show k < (vord v 0).1 by omega)).2.1
    have := hW.tN
    rw [vpays_succ, vpay1_off (by omega)]; exact ih (by omega)
theorem vpays_c {v : zV} {k t c : Nat} (hc : c < 11) (h : c ≤ 1 ∨ 5 ≤ c) : vpays v k (202 + 11 * t + c) = v (202 + 11 * t + c) := by
  induction k with
  | zero => exact vgrow_c hc (by omega)
  | succ k ih => rw [vpays_succ, vpay1_off (by omega)]; exact ih
/-- what the first k bids of a tenant pay -/
def vpaidBy (v : zV) (t k : Nat) : Nat := zFor k (fun i a => if vten v 0 i = t then a + vpayd v 0 i else a) 0
theorem vpaidBy_succ (v : zV) (t k : Nat) : vpaidBy v t (k + 1) = if vten v 0 k = t then vpaidBy v t k + vpayd v 0 k else vpaidBy v t k := rfl
theorem vpaidBy_le {v : zV} (hW : zWF v) {t k : Nat} (hk : k ≤ (vord v 0).1) : vpaidBy v t k ≤ vspent v 0 (vunits v 0) t k := by
  induction k with
  | zero => exact Nat.le_refl _
  | succ k ih =>
    have h1 := ih (by omega)
    have h2 := vpayd_le hW (show k < (vord v 0).1 by omega)
    rw [vpaidBy_succ, vspent_succ]
    split <;> omega
theorem vpaidBy_mono {v : zV} {t i k : Nat} (h : i ≤ k) : vpaidBy v t i ≤ vpaidBy v t k := by
  induction k with
  | zero => have : i = 0 := by omega
            rw [this]; exact Nat.le_refl _
  | succ k ih =>
    rcases Nat.lt_or_ge i (k + 1) with q | q
    · refine Nat.le_trans (ih (by omega)) ?_
      rw [vpaidBy_succ]
      split <;> omega
    · have : i = k + 1 := by omega
      rw [this]; exact Nat.le_refl _
theorem vpaidBy_all {v : zV} (hW : zWF v) {t k : Nat} (ht : t < v 7) (hk : k ≤ (vord v 0).1) : vpaidBy v t k ≤ vgrown v t :=
  Nat.le_trans (vpaidBy_mono hk) (Nat.le_trans (vpaidBy_le hW (Nat.le_refl _)) ((vsell_ok hW 0).2.2.1 t ht))
theorem vpays_purse {v : zV} (hW : zWF v) {t k : Nat} (ht : t < v 7) (hk : k ≤ (vord v 0).1) : vpays v k (202 + 11 * t + 2) = vgrown v t - vpaidBy v t k := by
  induction k with
  | zero => exact vgrow_at ht
  | succ k ih =>
    rw [vpays_succ, vpaidBy_succ]
    by_cases e : vten v 0 k = t
    · subst e
      rw [vpay1_2, if_pos rfl, ih (by omega)]; omega
    · rw [if_neg e, vpay1_off (by omega)]; exact ih (by omega)
/-- what is paid can be paid -/
theorem vpays_can {v : zV} (hW : zWF v) {k : Nat} (hk : k < (vord v 0).1) : vpayd v 0 k ≤ vpays v k (202 + 11 * vten v 0 k + 2) ∧ vpays v k (202 + 11 * vten v 0 k + 2) ≤ 9999999 := by
  have ht := (vbidder hW hk).2.1
  rw [vpays_purse hW ht (by omega)]
  have h1 := vpaidBy_all hW ht (show k + 1 ≤ (vord v 0).1 by omega)
  rw [vpaidBy_succ, if_pos rfl] at h1
  have := vgrown_le hW ht
  omega
theorem vpays_paid {v : zV} (hW : zWF v) {t k : Nat} (ht : t < v 7) : vpays v k (202 + 11 * t + 4) ≤ 2000000000 := by
  induction k with
  | zero =>
    show vgrow v (v 7) _ ≤ _
    rw [vgrow_c (by decide) (by decide)]; exact (hW.ten ht).2.2.2
  | succ k ih =>
    rw [vpays_succ]
    by_cases e : vten v 0 k = t
    · subst e
      rw [vpay1_4]; omega
    · rw [vpay1_off (by omega)]; exact ih
theorem vpayd_max {v : zV} (hW : zWF v) {k : Nat} (hk : k < (vord v 0).1) : vpayd v 0 k ≤ 9999999 := by
  have := vpays_can hW hk
  omega
/-! repairs -/
def vrep1 (s : zV) (g sh to : Nat) : zV := vset (vset s (268 + 23 * g + 7 + sh) to) (268 + 23 * g + 6) (s (268 + 23 * g + 6) - vcost s g)
def vrk (s : zV) (g : Nat) : Nat → zV
  | 0 => s
  | k + 1 => match vpm (vrk s g k) g (vfm (vrk s g k) 0 g) with
    | none => vrk s g k
    | some to => vrep1 (vrk s g k) g (vfm (vrk s g k) 0 g) to
def vstop (s : zV) (g : Nat) : Bool := !(decide (vcost s g ≤ s (268 + 23 * g + 6)) && vdam s 0 g && (vpm s g (vfm s 0 g)).isSome)
def vrn (s : zV) (g : Nat) : Nat := zFst 11 (fun k => vstop (vrk s g k) g)
def vadd (v s : zV) (k : Nat) : zV := vset s (268 + 23 * (vord v 0).2 k + 6) (s (268 + 23 * (vord v 0).2 k + 6) + vunits v 0 k)
def vfix (v : zV) (k : Nat) : zV × Nat := zFor k (fun k p => (vrk (vadd v p.1 k) ((vord v 0).2 k) (vrn (vadd v p.1 k) ((vord v 0).2 k)), p.2 + vrn (vadd v p.1 k) ((vord v 0).2 k))) (vpays v (vord v 0).1, 0)
theorem vfix_succ (v : zV) (k : Nat) : vfix v (k + 1) = (vrk (vadd v (vfix v k).1 k) ((vord v 0).2 k) (vrn (vadd v (vfix v k).1 k) ((vord v 0).2 k)), (vfix v k).2 + vrn (vadd v (vfix v k).1 k) ((vord v 0).2 k)) := rfl
def vshift (s : zV) : zV := fun i => if 498 ≤ i ∧ i < 693 then s (i + 5) else if i = 9 then 39 else s i
def vrec (s : zV) (sold clr many rep : Nat) : zV := vset (vset (vset (vset (vset (vset s (498 + 5 * s 9) (s 5)) (498 + 5 * s 9 + 1) sold) (498 + 5 * s 9 + 2) clr) (498 + 5 * s 9 + 3) many) (498 + 5 * s 9 + 4) rep) 9 (s 9 + 1)
def vrecord (s : zV) (sold clr many rep : Nat) : zV := vrec (if s 9 = 40 then vshift s else s) sold clr many rep
def vsold (v : zV) : Nat := vsum (vunits v 0) (vord v 0).1
def vpaid (v : zV) : Nat := vsum (vpayd v 0) (vord v 0).1
def vrepd (v : zV) : Nat := (vfix v (vord v 0).1).2
def vclr (v : zV) : Nat := (vsell v 0).2.2.1
def vend (v : zV) : zV := vset (vfix v (vord v 0).1).1 4 (min (vsell v 0).1 (v 1))
def vround (v : zV) : zV := vset (vrecord (vend v) (vsold v) (vclr v) (vord v 0).1 (vrepd v)) 5 (v 5 + 1)
/-! what can take a shard -/
theorem vscan_can {v : zV} {can fz : Nat → Bool} : ∀ (k n : Nat) (any : Option Nat) (r : Nat), (∀ b, any = some b → can b = true) → vscan v can fz k n any = some r → can r = true := by
  intro k
  induction k with
  | zero => intro n any r ha h; exact ha r h
  | succ k ih =>
    intro n any r ha h
    unfold vscan at h
    split at h
    · rename_i q
      cases h
      exact (Bool.and_eq_true _ _ ▸ q).1
    · refine ih _ _ r (fun b hb => ?_) h
      split at hb
      · rename_i q
        cases hb
        exact (Bool.and_eq_true _ _ ▸ q).1
      · exact ha b hb
theorem vplace_can {v : zV} {g many few p n : Nat} {but : Int32} (h : vplace v g many few but p = some n) : vcan v g many few n = true := vscan_can _ _ _ _ (fun b hb => by cases hb) h
theorem vpm_can {v : zV} {g s n : Nat} (h : vpm v g s = some n) : n < v 6 ∧ nd v n 4 = 0 ∧ vhas v g (vsh v g) n = false ∧ von v g 0 n < nd v n 3 := by
  have h1 := vplace_can h
  have h2 := vplace_lt h
  simp only [vcan, Bool.and_eq_true, beq_iff_eq, Bool.not_eq_true', decide_eq_true_eq] at h1
  exact ⟨h2, h1.1.1, h1.1.2, h1.2⟩
theorem vhas_f {v : zV} {g many n s : Nat} (h : vhas v g many n = false) (hs : s < many) : hol v g s ≠ n := by
  intro e
  have : vhas v g many n = true := zAny_iff.mpr ⟨s, hs, by simp [e]⟩
  rw [h] at this; cases this
theorem zCnt_up {n j : Nat} {p q : Nat → Bool} (hj : j < n) (h : ∀ i, i ≠ j → q i = p i) (hp : p j = false) (hq : q j = true) : zCnt n q = zCnt n p + 1 := by
  induction n with
  | zero => omega
  | succ n ih =>
    rw [zCnt_succ, zCnt_succ]
    rcases Nat.lt_or_ge j n with k | k
    · rw [h n (by omega), ih k]; split <;> rfl
    · have e : j = n := by omega
      subst e
      rw [hp, hq, zCnt_congr (p := q) (q := p) (fun i hi => h i (by omega))]
      rfl
/-! WELL FORMED again -/
theorem zWF.ofTen {v s : zV} (hW : zWF v) (hf : ∀ i, (i < 202 ∨ 268 ≤ i) → s i = v i) (ht : ∀ t, t < v 7 → tn s t 0 ≤ 999999 ∧ tn s t 1 ≤ 999999 ∧ tn s t 2 ≤ 9999999 ∧ tn s t 4 ≤ 2000000000) : zWF s := by
  have e6 := hf 6 (by omega)
  have e7 := hf 7 (by omega)
  have e8 := hf 8 (by omega)
  have e9 := hf 9 (by omega)
  have hn6 := hW.nN
  have eN : ∀ n c, n < v 6 → c < 12 → s (10 + 12 * n + c) = v (10 + 12 * n + c) := fun n c hn hc => hf _ (by omega)
  have eG : ∀ g c, s (268 + 23 * g + c) = v (268 + 23 * g + c) := fun g c => hf _ (by omega)
  have eS : ∀ g, vsh s g = vsh v g := fun g => by unfold vsh; rw [show gp s g 2 = gp v g 2 from eG g 2, show gp s g 3 = gp v g 3 from eG g 3]
  obtain ⟨h0, h1, h2, h3, h4, h6, h7, h8, h9, hn, ha, ht', hg, hh, hi, hk⟩ := hW
  refine ⟨by rw [hf 0 (by omega)]; exact h0, by rw [hf 1 (by omega)]; exact h1, by rw [hf 2 (by omega)]; exact h2, by rw [hf 3 (by omega)]; exact h3, by rw [hf 4 (by omega)]; exact h4, by rw [e6]; exact h6, by rw [e7]; exact h7, by rw [e8]; exact h8, by rw [e9]; exact h9, ?_, ?_, ?_, ?_, ?_, ?_, ?_⟩
  · intro n q
    rw [e6] at q
    simp only [nd]
    rw [eN n 0 q (by decide), eN n 1 q (by decide), eN n 2 q (by decide), eN n 3 q (by decide), eN n 4 q (by decide)]
    exact hn n q
  · intro n m q q2 e
    rw [e6] at q q2
    simp only [nd] at e
    rw [eN n 0 q (by decide), eN m 0 q2 (by decide)] at e
    exact ha n m q q2 e
  · intro t q
    rw [e7] at q
    exact ht t q
  · intro g q
    rw [e8] at q
    simp only [gp]
    rw [eG g 0, eG g 1, eG g 2, eG g 3, eG g 4, eG g 5, eG g 6, e7]
    exact hg g q
  · intro g j q q2
    rw [e8] at q
    rw [eS] at q2
    simp only [hol, gp]
    rw [eG g (7 + j), e6]
    exact hh g j q q2
  · intro g j t q q2 q3 e
    rw [e8] at q
    rw [eS] at q2 q3
    simp only [hol, gp] at e
    rw [eG g (7 + j), eG g (7 + t)] at e
    exact hi g j t q q2 q3 e
  · intro k q
    rw [e9] at q
    show s (498 + 5 * k + 2) ≤ 9999
    rw [hf (498 + 5 * k + 2) (by omega)]
    exact hk k q
/-- one group's progress and holders changed -/
theorem zWF.ofGrp {v s : zV} {g0 : Nat} (hW : zWF v) (hg0 : g0 < v 8) (hf : ∀ i, (i < 268 + 23 * g0 + 6 ∨ 268 + 23 * g0 + 17 ≤ i) → s i = v i) (hp : s (268 + 23 * g0 + 6) ≤ 7000) (hl : ∀ j, j < vsh v g0 → s (268 + 23 * g0 + (7 + j)) < v 6) (hin : ∀ j t, j < vsh v g0 → t < vsh v g0 → s (268 + 23 * g0 + (7 + j)) = s (268 + 23 * g0 + (7 + t)) → j = t) : zWF s := by
  have e6 := hf 6 (by omega)
  have e7 := hf 7 (by omega)
  have e8 := hf 8 (by omega)
  have e9 := hf 9 (by omega)
  have hn6 := hW.nN
  have hn7 := hW.tN
  have hn8 := hW.gN
  have eN : ∀ n c, n < v 6 → c < 12 → s (10 + 12 * n + c) = v (10 + 12 * n + c) := fun n c hn hc => hf _ (by omega)
  have eG5 : ∀ g c, c < 6 → s (268 + 23 * g + c) = v (268 + 23 * g + c) := fun g c hc => hf _ (by omega)
  have eGo : ∀ g c, g ≠ g0 → c < 17 → s (268 + 23 * g + c) = v (268 + 23 * g + c) := fun g c hg hc => hf _ (by omega)
  have eS : ∀ g, vsh s g = vsh v g := fun g => by unfold vsh; rw [show gp s g 2 = gp v g 2 from eG5 g 2 (by decide), show gp s g 3 = gp v g 3 from eG5 g 3 (by decide)]
  have hsh : ∀ g, g < v 8 → vsh v g ≤ 10 := fun g hg => (hW.sh hg).2
  obtain ⟨h0, h1, h2, h3, h4, h6, h7, h8, h9, hn, ha, ht', hg, hh, hi, hk⟩ := hW
  refine ⟨by rw [hf 0 (by omega)]; exact h0, by rw [hf 1 (by omega)]; exact h1, by rw [hf 2 (by omega)]; exact h2, by rw [hf 3 (by omega)]; exact h3, by rw [hf 4 (by omega)]; exact h4, by rw [e6]; exact h6, by rw [e7]; exact h7, by rw [e8]; exact h8, by rw [e9]; exact h9, ?_, ?_, ?_, ?_, ?_, ?_, ?_⟩
  · intro n q
    rw [e6] at q
    simp only [nd]
    rw [eN n 0 q (by decide), eN n 1 q (by decide), eN n 2 q (by decide), eN n 3 q (by decide), eN n 4 q (by decide)]
    exact hn n q
  · intro n m q q2 e
    rw [e6] at q q2
    simp only [nd] at e
    rw [eN n 0 q (by decide), eN m 0 q2 (by decide)] at e
    exact ha n m q q2 e
  · intro t q
    rw [e7] at q
    simp only [tn]
    rw [hf (202 + 11 * t + 0) (by omega), hf (202 + 11 * t + 1) (by omega), hf (202 + 11 * t + 2) (by omega), hf (202 + 11 * t + 4) (by omega)]
    exact ht' t q
  · intro g q
    rw [e8] at q
    simp only [gp]
    rw [eG5 g 0 (by decide), eG5 g 1 (by decide), eG5 g 2 (by decide), eG5 g 3 (by decide), eG5 g 4 (by decide), eG5 g 5 (by decide), e7]
    obtain ⟨a0, a1, a2, a3, a4, a5, a6, a7, a8, a9, a10⟩ := hg g q
    refine ⟨a0, a1, a2, a3, a4, a5, a6, a7, a8, a9, ?_⟩
    by_cases e : g = g0
    · rw [e]; exact hp
    · rw [eGo g 6 e (by decide)]; exact a10
  · intro g j q q2
    rw [e8] at q
    rw [eS] at q2
    have := hsh g q
    show s (268 + 23 * g + (7 + j)) < s 6
    rw [e6]
    by_cases e : g = g0
    · subst e; exact hl j q2
    · rw [eGo g (7 + j) e (by omega)]; exact hh g j q q2
  · intro g j t q q2 q3 e
    rw [e8] at q
    rw [eS] at q2 q3
    have := hsh g q
    simp only [hol, gp] at e
    by_cases e2 : g = g0
    · subst e2; exact hin j t q2 q3 e
    · rw [eGo g (7 + j) e2 (by omega), eGo g (7 + t) e2 (by omega)] at e
      exact hi g j t q q2 q3 e
  · intro k q
    rw [e9] at q
    show s (498 + 5 * k + 2) ≤ 9999
    rw [hf (498 + 5 * k + 2) (by omega)]
    exact hk k q
theorem vcost_ge1 {v : zV} (hW : zWF v) {g : Nat} (hg : g < v 8) : 1 ≤ vcost v g := (hW.cost hg).1
/-- the state after one repair -/
theorem vrep1_off {s : zV} {g sh to i : Nat} (h : i ≠ 268 + 23 * g + 7 + sh) (h2 : i ≠ 268 + 23 * g + 6) : vrep1 s g sh to i = s i := by
  unfold vrep1
  rw [vset_off h2, vset_off h]
theorem vrep1_sh {s : zV} {g sh to : Nat} : vrep1 s g sh to (268 + 23 * g + (7 + sh)) = to := by
  unfold vrep1
  rw [vset_off (by omega), show 268 + 23 * g + (7 + sh) = 268 + 23 * g + 7 + sh by omega, vset_at]
theorem vrep1_pr {s : zV} {g sh to : Nat} : vrep1 s g sh to (268 + 23 * g + 6) = s (268 + 23 * g + 6) - vcost s g := by
  unfold vrep1
  rw [vset_at]
theorem vrep1_wf {s : zV} (hW : zWF s) {g sh to : Nat} (hg : g < s 8) (hsh : sh < vsh s g) (hto : vpm s g sh = some to) : zWF (vrep1 s g sh to) := by
  obtain ⟨c1, c2, c3, c4⟩ := vpm_can hto
  have h10 := (hW.sh hg).2
  refine hW.ofGrp hg (fun i hi => vrep1_off (by omega) (by omega)) (by rw [vrep1_pr]; have := (hW.grp hg).2.2.2.2.2.2.2.2.2.2; have : s (268 + 23 * g + 6) ≤ 7000 := this; omega) (fun j hj => ?_) (fun j t hj ht e => ?_)
  · by_cases e : j = sh
    · rw [e, vrep1_sh]; exact c1
    · rw [vrep1_off (by omega) (by omega)]; exact hW.holds hg hj
  · by_cases e1 : j = sh <;> by_cases e2 : t = sh
    · omega
    · rw [e1, vrep1_sh, vrep1_off (by omega) (by omega)] at e
      exact absurd e.symm (vhas_f c3 ht)
    · rw [e2, vrep1_sh, vrep1_off (by omega) (by omega)] at e
      exact absurd e (vhas_f c3 hj)
    · rw [vrep1_off (by omega) (by omega), vrep1_off (by omega) (by omega)] at e
      exact hW.one hg hj ht e
theorem vrep1_vsh {s : zV} {g sh to g' : Nat} (hs : sh < 10) : vsh (vrep1 s g sh to) g' = vsh s g' := by
  unfold vsh
  rw [show gp (vrep1 s g sh to) g' 2 = gp s g' 2 from vrep1_off (by omega) (by omega), show gp (vrep1 s g sh to) g' 3 = gp s g' 3 from vrep1_off (by omega) (by omega)]
theorem vrep1_nav {s : zV} (hW : zWF s) {g sh to : Nat} (hg : g < s 8) (hsh : sh < vsh s g) (hav : vav s 0 g sh = false) (hto : vpm s g sh = some to) : vnav (vrep1 s g sh to) 0 g = vnav s 0 g + 1 := by
  obtain ⟨c1, c2, c3, c4⟩ := vpm_can hto
  have hn6 := hW.nN
  have h10 := (hW.sh hg).2
  unfold vnav
  rw [vrep1_vsh (by omega)]
  refine Eq.trans (zCnt_congr (q := fun j => if j = sh then true else vav s 0 g j) (fun j hj => ?_)) (zCnt_up hsh (fun i hi => if_neg hi) hav (if_pos rfl))
  by_cases e : j = sh
  · rw [if_pos e, e]
    have e2 : hol (vrep1 s g sh to) g sh = to := vrep1_sh
    unfold vav
    rw [e2, show nd (vrep1 s g sh to) to 4 = nd s to 4 from vrep1_off (by omega) (by omega), c2]
    simp
  · rw [if_neg e]
    have hj6 := hW.holds hg hj
    have e2 : hol (vrep1 s g sh to) g j = hol s g j := vrep1_off (by omega) (by omega)
    unfold vav
    rw [e2, show nd (vrep1 s g sh to) (hol s g j) 4 = nd s (hol s g j) 4 from vrep1_off (by omega) (by omega)]
theorem vfm_av {v : zV} {d g : Nat} (h : vdam v d g = true) : vav v d g (vfm v d g) = false := by
  have := zFst_lt (p := fun s => !vav v d g s) (n := vsh v g) (vfm_lt h)
  unfold vfm
  simpa using this
theorem vrk_succ {s : zV} {g k to : Nat} (h : vpm (vrk s g k) g (vfm (vrk s g k) 0 g) = some to) : vrk s g (k + 1) = vrep1 (vrk s g k) g (vfm (vrk s g k) 0 g) to := by
  show (match vpm (vrk s g k) g (vfm (vrk s g k) 0 g) with | none => vrk s g k | some to => vrep1 (vrk s g k) g (vfm (vrk s g k) 0 g) to) = _
  rw [h]
theorem vstop_f {s : zV} {g : Nat} (h : vstop s g = false) : vcost s g ≤ s (268 + 23 * g + 6) ∧ vdam s 0 g = true ∧ ∃ to, vpm s g (vfm s 0 g) = some to := by
  simp only [vstop, Bool.not_eq_false', Bool.and_eq_true, decide_eq_true_eq] at h
  exact ⟨h.1.1, h.1.2, Option.isSome_iff_exists.mp h.2⟩
/-- what a group's repairs leave as it was -/
def zRk (s r : zV) (g : Nat) : Prop := zWF r ∧ (∀ i, (i < 268 + 23 * g + 6 ∨ 268 + 23 * g + 17 ≤ i) → r i = s i) ∧ r (268 + 23 * g + 6) ≤ s (268 + 23 * g + 6)
theorem vrk_ok {s : zV} (hW : zWF s) {g : Nat} (hg : g < s 8) : ∀ k, (∀ j, j < k → vstop (vrk s g j) g = false) → zRk s (vrk s g k) g ∧ k ≤ vnav (vrk s g k) 0 g := by
  intro k
  induction k with
  | zero => intro _; exact ⟨⟨hW, fun i _ => rfl, Nat.le_refl _⟩, Nat.zero_le _⟩
  | succ k ih =>
    intro h
    obtain ⟨⟨h1, h2, h2'⟩, h3⟩ := ih (fun j hj => h j (by omega))
    obtain ⟨c1, c2, to, c3⟩ := vstop_f (h k (by omega))
    have hg' : g < vrk s g k 8 := by rw [h2 8 (by omega)]; exact hg
    have hlt := vfm_lt c2
    have h10 := (h1.sh hg').2
    rw [vrk_succ c3]
    refine ⟨⟨vrep1_wf h1 hg' hlt c3, fun i hi => ?_, ?_⟩, ?_⟩
    · rw [vrep1_off (by omega) (by omega)]; exact h2 i hi
    · rw [vrep1_pr]; omega
    · rw [vrep1_nav h1 hg' hlt (vfm_av c2) c3]; omega
theorem vnav_le {v : zV} {d g : Nat} : vnav v d g ≤ vsh v g := zCnt_le _ _
theorem vdam_lt {v : zV} {d g : Nat} (h : vdam v d g = true) : vnav v d g < vsh v g := by
  have h1 := zCnt_not (vsh v g) (fun s => vav v d g s)
  have h2 : 0 < zCnt (vsh v g) (fun s => !vav v d g s) := by
    have key : ∀ (n : Nat) (p : Nat → Bool) (i : Nat), i < n → p i = true → 0 < zCnt n p := by
      intro n p i
      induction n with
      | zero => intro q; omega
      | succ n ih =>
        intro hi hp
        rw [zCnt_succ]
        rcases Nat.lt_or_ge i n with q | q
        · have := ih q hp; split <;> omega
        · have : i = n := by omega
          subst this
          rw [hp, if_pos rfl]; omega
    exact key _ _ (vfm v d g) (vfm_lt h) (by rw [vfm_av h]; rfl)
  unfold vnav
  omega
theorem vrk_vsh {s : zV} {g k : Nat} (h : zRk s (vrk s g k) g) : vsh (vrk s g k) g = vsh s g := by
  unfold vsh
  rw [show gp (vrk s g k) g 2 = gp s g 2 from h.2.1 _ (by omega), show gp (vrk s g k) g 3 = gp s g 3 from h.2.1 _ (by omega)]
/-- it stops: after ten at the latest -/
theorem vrk_stops {s : zV} (hW : zWF s) {g : Nat} (hg : g < s 8) (h : ∀ j, j < 10 → vstop (vrk s g j) g = false) : vstop (vrk s g 10) g = true := by
  obtain ⟨h1, h2⟩ := vrk_ok hW hg 10 h
  have h10 := (hW.sh hg).2
  have e := vrk_vsh h1
  cases q : vstop (vrk s g 10) g with
  | true => rfl
  | false =>
    have := vdam_lt (vstop_f q).2.1
    omega
theorem vrn_le {s : zV} (hW : zWF s) {g : Nat} (hg : g < s 8) : vrn s g ≤ 10 ∧ (∀ j, j < vrn s g → vstop (vrk s g j) g = false) ∧ vstop (vrk s g (vrn s g)) g = true := by
  have h1 : vrn s g ≤ 11 := zFst_le _ _
  have h2 : ∀ j, j < vrn s g → vstop (vrk s g j) g = false := fun j hj => zFst_min (p := fun k => vstop (vrk s g k) g) hj (by omega)
  have h3 : vrn s g ≤ 10 := by
    rcases Nat.lt_or_ge (vrn s g) 11 with q | q
    · omega
    · have h4 := vrk_stops hW hg (fun j hj => h2 j (by omega))
      have h5 := h2 10 (by omega)
      rw [h4] at h5; cases h5
  refine ⟨h3, h2, ?_⟩
  exact zFst_lt (p := fun k => vstop (vrk s g k) g) (n := 11) (by show vrn s g < 11; omega)
theorem vrn_rk {s : zV} (hW : zWF s) {g : Nat} (hg : g < s 8) : zRk s (vrk s g (vrn s g)) g := (vrk_ok hW hg _ (vrn_le hW hg).2.1).1
theorem zWF.ofTop {v s : zV} (hW : zWF v) (hf : ∀ i, i < 498 → i ≠ 4 → i ≠ 5 → i ≠ 9 → s i = v i) (h4 : s 4 ≤ 99999) (h9 : s 9 ≤ 40) (hk : ∀ k, k < s 9 → hs s k 2 ≤ 9999) : zWF s := by
  have e6 := hf 6 (by omega) (by omega) (by omega) (by omega)
  have e7 := hf 7 (by omega) (by omega) (by omega) (by omega)
  have e8 := hf 8 (by omega) (by omega) (by omega) (by omega)
  have hn6 := hW.nN
  have hn7 := hW.tN
  have hn8 := hW.gN
  have eN : ∀ n c, n < v 6 → c < 12 → s (10 + 12 * n + c) = v (10 + 12 * n + c) := fun n c hn hc => hf _ (by omega) (by omega) (by omega) (by omega)
  have eG : ∀ g c, g < v 8 → c < 23 → s (268 + 23 * g + c) = v (268 + 23 * g + c) := fun g c hg hc => hf _ (by omega) (by omega) (by omega) (by omega)
  have eT : ∀ t c, t < v 7 → c < 11 → s (202 + 11 * t + c) = v (202 + 11 * t + c) := fun g c hg hc => hf _ (by omega) (by omega) (by omega) (by omega)
  have eS : ∀ g, g < v 8 → vsh s g = vsh v g := fun g hg => by unfold vsh; rw [show gp s g 2 = gp v g 2 from eG g 2 hg (by decide), show gp s g 3 = gp v g 3 from eG g 3 hg (by decide)]
  have hsh : ∀ g, g < v 8 → vsh v g ≤ 10 := fun g hg => (hW.sh hg).2
  obtain ⟨h0, h1, h2, h3, h4', h6, h7, h8, h9', hn, ha, ht', hg, hh, hi, hk'⟩ := hW
  refine ⟨by rw [hf 0 (by omega) (by omega) (by omega) (by omega)]; exact h0, by rw [hf 1 (by omega) (by omega) (by omega) (by omega)]; exact h1, by rw [hf 2 (by omega) (by omega) (by omega) (by omega)]; exact h2, by rw [hf 3 (by omega) (by omega) (by omega) (by omega)]; exact h3, h4, by rw [e6]; exact h6, by rw [e7]; exact h7, by rw [e8]; exact h8, h9, ?_, ?_, ?_, ?_, ?_, ?_, hk⟩
  · intro n q
    rw [e6] at q
    simp only [nd]
    rw [eN n 0 q (by decide), eN n 1 q (by decide), eN n 2 q (by decide), eN n 3 q (by decide), eN n 4 q (by decide)]
    exact hn n q
  · intro n m q q2 e
    rw [e6] at q q2
    simp only [nd] at e
    rw [eN n 0 q (by decide), eN m 0 q2 (by decide)] at e
    exact ha n m q q2 e
  · intro t q
    rw [e7] at q
    simp only [tn]
    rw [eT t 0 q (by decide), eT t 1 q (by decide), eT t 2 q (by decide), eT t 4 q (by decide)]
    exact ht' t q
  · intro g q
    rw [e8] at q
    simp only [gp]
    rw [eG g 0 q (by decide), eG g 1 q (by decide), eG g 2 q (by decide), eG g 3 q (by decide), eG g 4 q (by decide), eG g 5 q (by decide), eG g 6 q (by decide), e7]
    exact hg g q
  · intro g j q q2
    rw [e8] at q
    rw [eS g q] at q2
    have := hsh g q
    show s (268 + 23 * g + (7 + j)) < s 6
    rw [e6, eG g (7 + j) q (by omega)]; exact hh g j q q2
  · intro g j t q q2 q3 e
    rw [e8] at q
    rw [eS g q] at q2 q3
    have := hsh g q
    simp only [hol, gp] at e
    rw [eG g (7 + j) q (by omega), eG g (7 + t) q (by omega)] at e
    exact hi g j t q q2 q3 e
theorem vpays_wf {v : zV} (hW : zWF v) {k : Nat} (hk : k ≤ (vord v 0).1) : zWF (vpays v k) := by
  refine hW.ofTen (fun i hi => vpays_far hW hk hi) (fun t ht => ?_)
  have h1 := hW.ten ht
  have h2 := vpays_paid hW (k := k) ht
  have h3 := vpays_purse hW ht hk
  have h4 := vgrown_le hW ht
  refine ⟨?_, ?_, ?_, h2⟩
  · show vpays v k (202 + 11 * t + 0) ≤ _
    rw [vpays_c (by decide) (by decide)]; exact h1.1
  · show vpays v k (202 + 11 * t + 1) ≤ _
    rw [vpays_c (by decide) (by decide)]; exact h1.2.1
  · show vpays v k (202 + 11 * t + 2) ≤ _
    omega
