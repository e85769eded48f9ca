/-! PLACES: the scan round the ring finds the node with the shortest way -/
def vway (v : zV) (n p : Nat) : Nat := (v (10 + 12 * n + 0) + 10000 - p) % 10000
theorem vway_if {v : zV} {n p : Nat} (ha : v (10 + 12 * n + 0) ≤ 9999) (hp : p ≤ 10000) : vway v n p = if p ≤ v (10 + 12 * n + 0) then v (10 + 12 * n + 0) - p else v (10 + 12 * n + 0) + 10000 - p := by
  unfold vway
  split <;> omega
theorem vfrom_spec {v : zV} {q n : Nat} (h : vfrom v q = some n) : n < v 6 ∧ ((q ≤ v (10 + 12 * n + 0) ∧ ∀ m, m < v 6 → q ≤ v (10 + 12 * m + 0) → v (10 + 12 * n + 0) ≤ v (10 + 12 * m + 0)) ∨ ((∀ m, m < v 6 → v (10 + 12 * m + 0) < q) ∧ ∀ m, m < v 6 → v (10 + 12 * n + 0) ≤ v (10 + 12 * m + 0))) := by
  have hl := vfrom_lt h
  refine ⟨hl, ?_⟩
  have key := zFor_inv (P := fun i (s : Option Nat × Option Nat) => (match s.1 with | none => ∀ m, m < i → v (10 + 12 * m + 0) < q | some b => b < i ∧ q ≤ v (10 + 12 * b + 0) ∧ ∀ m, m < i → q ≤ v (10 + 12 * m + 0) → v (10 + 12 * b + 0) ≤ v (10 + 12 * m + 0)) ∧ (match s.2 with | none => i = 0 | some b => b < i ∧ ∀ m, m < i → v (10 + 12 * b + 0) ≤ v (10 + 12 * m + 0))) (n := v 6) (f := vstepN v q) (s := (none, none)) ⟨fun m hm => absurd hm (Nat.not_lt_zero m), rfl⟩ (fun i t hi ht => by
    obtain ⟨x, z⟩ := t
    have nd0 : nd v i 0 = v (10 + 12 * i + 0) := rfl
    have hz : match (vstepN v q i (x, z)).2 with | none => i + 1 = 0 | some b => b < i + 1 ∧ ∀ m, m < i + 1 → v (10 + 12 * b + 0) ≤ v (10 + 12 * m + 0) := by
      obtain ⟨-, h2⟩ := ht
      cases z with
      | none =>
        rw [vstepN_2b rfl]
        have h2 : i = 0 := h2
        refine ⟨by omega, fun m hm => ?_⟩
        have : m = i := by omega
        rw [this]; exact Nat.le_refl _
      | some c =>
        have h2 : c < i ∧ ∀ m, m < i → v (10 + 12 * c + 0) ≤ v (10 + 12 * m + 0) := h2
        by_cases hc : nd v i 0 < nd v c 0
        · rw [vstepN_2c rfl hc]
          refine ⟨by omega, fun m hm => ?_⟩
          rcases Nat.lt_or_ge m i with w | w
          · have := h2.2 m w
            have : nd v c 0 = v (10 + 12 * c + 0) := rfl
            omega
          · have : m = i := by omega
            rw [this]; exact Nat.le_refl _
        · rw [vstepN_2d rfl hc]
          refine ⟨by omega, fun m hm => ?_⟩
          rcases Nat.lt_or_ge m i with w | w
          · exact h2.2 m w
          · have : m = i := by omega
            subst this
            have : nd v c 0 = v (10 + 12 * c + 0) := rfl
            omega
    refine ⟨?_, hz⟩
    obtain ⟨h1, -⟩ := ht
    by_cases hq : q ≤ nd v i 0
    · cases x with
      | none =>
        rw [vstepN_1b hq rfl]
        have h1 : ∀ m, m < i → v (10 + 12 * m + 0) < q := h1
        refine ⟨by omega, hq, fun m hm hm2 => ?_⟩
        rcases Nat.lt_or_ge m i with w | w
        · have := h1 m w; omega
        · have : m = i := by omega
          rw [this]; exact Nat.le_refl _
      | some c =>
        have h1 : c < i ∧ q ≤ v (10 + 12 * c + 0) ∧ ∀ m, m < i → q ≤ v (10 + 12 * m + 0) → v (10 + 12 * c + 0) ≤ v (10 + 12 * m + 0) := h1
        have e : nd v c 0 = v (10 + 12 * c + 0) := rfl
        by_cases hc : nd v i 0 < nd v c 0
        · rw [vstepN_1c hq rfl hc]
          refine ⟨by omega, hq, fun m hm hm2 => ?_⟩
          rcases Nat.lt_or_ge m i with w | w
          · have := h1.2.2 m w hm2; omega
          · have : m = i := by omega
            rw [this]; exact Nat.le_refl _
        · rw [vstepN_1d rfl hc]
          refine ⟨by omega, h1.2.1, fun m hm hm2 => ?_⟩
          rcases Nat.lt_or_ge m i with w | w
          · exact h1.2.2 m w hm2
          · have : m = i := by omega
            subst this
            omega
    · rw [vstepN_1a hq]
      cases x with
      | none =>
        have h1 : ∀ m, m < i → v (10 + 12 * m + 0) < q := h1
        intro m hm
        rcases Nat.lt_or_ge m i with w | w
        · exact h1 m w
        · have : m = i := by omega
          rw [this]; omega
      | some c =>
        have h1 : c < i ∧ q ≤ v (10 + 12 * c + 0) ∧ ∀ m, m < i → q ≤ v (10 + 12 * m + 0) → v (10 + 12 * c + 0) ≤ v (10 + 12 * m + 0) := h1
        refine ⟨by omega, h1.2.1, fun m hm hm2 => ?_⟩
        rcases Nat.lt_or_ge m i with w | w
        · exact h1.2.2 m w hm2
        · have : m = i := by omega
          rw [this] at hm2; omega)
  unfold vfrom at h
  revert h key
  generalize zFor (v 6) (vstepN v q) (none, none) = r
  obtain ⟨x, z⟩ := r
  rintro h ⟨k1, k2⟩
  cases x with
  | none =>
    have h : z = some n := h
    subst h
    exact Or.inr ⟨k1, k2.2⟩
  | some c =>
    have h : some c = some n := h
    cases h
    exact Or.inl ⟨k1.2.1, k1.2.2⟩
/-- the least key among those that can -/
def zMin (N : Nat) (can : Nat → Bool) (K : Nat → Nat) (o : Option Nat) : Prop := match o with
  | none => ∀ m, m < N → can m = false
  | some b => b < N ∧ can b = true ∧ ∀ m, m < N → can m = true → K b ≤ K m
theorem zMin_eq {N : Nat} {can : Nat → Bool} {K : Nat → Nat} {o o' : Option Nat} (hK : ∀ a b, a < N → b < N → K a = K b → a = b) (h : zMin N can K o) (h' : zMin N can K o') : o = o' := by
  cases o with
  | none =>
    cases o' with
    | none => rfl
    | some b =>
      have := h b h'.1
      rw [h'.2.1] at this; cases this
  | some a =>
    cases o' with
    | none =>
      have := h' a h.1
      rw [h.2.1] at this; cases this
    | some b =>
      have h1 := h.2.2 b h'.1 h'.2.1
      have h2 := h'.2.2 a h.1 h.2.1
      rw [hK a b h.1 h'.1 (by omega)]
def vkey (v : zV) (p : Nat) (fz : Nat → Bool) (n : Nat) : Nat := vway v n p + if fz n then 0 else 10000
theorem vway_lt (v : zV) (n p : Nat) : vway v n p < 10000 := Nat.mod_lt _ (by decide)
theorem vway_inj {v : zV} {p a b : Nat} (hW : ∀ n, n < v 6 → v (10 + 12 * n + 0) ≤ 9999) (hd : ∀ n m, n < v 6 → m < v 6 → v (10 + 12 * n + 0) = v (10 + 12 * m + 0) → n = m) (hp : p ≤ 10000) (ha : a < v 6) (hb : b < v 6) (e : vway v a p = vway v b p) : a = b := by
  refine hd a b ha hb ?_
  have := hW a ha
  have := hW b hb
  rw [vway_if (hW a ha) hp, vway_if (hW b hb) hp] at e
  split at e <;> split at e <;> omega
theorem vkey_inj {v : zV} {p a b : Nat} {fz : Nat → Bool} (hW : ∀ n, n < v 6 → v (10 + 12 * n + 0) ≤ 9999) (hd : ∀ n m, n < v 6 → m < v 6 → v (10 + 12 * n + 0) = v (10 + 12 * m + 0) → n = m) (hp : p ≤ 10000) (ha : a < v 6) (hb : b < v 6) (e : vkey v p fz a = vkey v p fz b) : a = b := by
  have h1 := vway_lt v a p
  have h2 := vway_lt v b p
  unfold vkey at e
  refine vway_inj hW hd hp ha hb ?_
  split at e <;> split at e <;> omega
/-- the scan: T is where it stands -/
theorem vscan_min {v : zV} {p : Nat} {can fz : Nat → Bool} (hW : ∀ n, n < v 6 → v (10 + 12 * n + 0) ≤ 9999) (hd : ∀ n m, n < v 6 → m < v 6 → v (10 + 12 * n + 0) = v (10 + 12 * m + 0) → n = m) (hp : p ≤ 10000) : ∀ (f T n : Nat) (any : Option Nat), zCnt (v 6) (fun m => decide (T ≤ vway v m p)) = f → (0 < f → n < v 6 ∧ T ≤ vway v n p ∧ ∀ m, m < v 6 → T ≤ vway v m p → vway v n p ≤ vway v m p) →
    (∀ m, m < v 6 → vway v m p < T → (can m && fz m) = false) → (match any with | none => ∀ m, m < v 6 → vway v m p < T → can m = false | some b => b < v 6 ∧ can b = true ∧ fz b = false ∧ ∀ m, m < v 6 → can m = true → vway v m p < T → vway v b p ≤ vway v m p) →
    (∀ b, any = some b → vway v b p < T) → zMin (v 6) can (vkey v p fz) (vscan v can fz f n any) := by
  intro f
  induction f with
  | zero =>
    intro T n any hc hn hv ha hat
    have hall : ∀ m, m < v 6 → vway v m p < T := by
      intro m hm
      rcases Nat.lt_or_ge (vway v m p) T with q | q
      · exact q
      · have h1 := zCnt_not (v 6) (fun m => decide (T ≤ vway v m p))
        have h2 : zCnt (v 6) (fun m => decide (T ≤ vway v m p)) ≠ 0 := by
          intro e
          have key : ∀ (N : Nat) (P : Nat → Bool), zCnt N P = 0 → ∀ i, i < N → P i = false := by
            intro N P
            induction N with
            | zero => intro _ i hi; omega
            | succ N ih =>
              intro h i hi
              rw [zCnt_succ] at h
              split at h
              · omega
              · rename_i w
                rcases Nat.lt_or_ge i N with u | u
                · exact ih h i u
                · have : i = N := by omega
                  rw [this]; simpa using w
          have := key _ _ e m hm
          simp at this
          omega
        exact absurd hc h2
    show zMin (v 6) can (vkey v p fz) any
    cases any with
    | none => exact fun m hm => ha m hm (hall m hm)
    | some b =>
      obtain ⟨a1, a2, a3, a4⟩ := ha
      refine ⟨a1, a2, fun m hm hcm => ?_⟩
      have h1 := hv m hm (hall m hm)
      rw [hcm, Bool.true_and] at h1
      have h2 := a4 m hm hcm (hall m hm)
      unfold vkey
      rw [a3, h1]
      simpa using h2
  | succ f ih =>
    intro T n any hc hn hv ha hat
    obtain ⟨n1, n2, n3⟩ := hn (by omega)
    unfold vscan
    by_cases hcf : (can n && fz n) = true
    · rw [if_pos hcf]
      simp only [Bool.and_eq_true] at hcf
      refine ⟨n1, hcf.1, fun m hm hcm => ?_⟩
      unfold vkey
      rw [hcf.2, if_pos rfl]
      rcases Nat.lt_or_ge (vway v m p) T with q | q
      · have h1 := hv m hm q
        rw [hcm, Bool.true_and] at h1
        rw [h1]
        have := vway_lt v n p
        simp
        omega
      · have := n3 m hm q
        omega
    · rw [if_neg hcf]
      have hcf' : (can n && fz n) = false := by simpa using hcf
      have hT : ∀ m, m < v 6 → (vway v n p + 1 ≤ vway v m p ↔ (T ≤ vway v m p ∧ m ≠ n)) := by
        intro m hm
        constructor
        · intro h
          exact ⟨by omega, fun e => by subst e; omega⟩
        · rintro ⟨h1, h2⟩
          have h3 := n3 m hm h1
          rcases Nat.lt_or_ge (vway v n p) (vway v m p) with q | q
          · omega
          · exact absurd (vway_inj hW hd hp hm n1 (by omega)) h2
      have hc2 : zCnt (v 6) (fun m => decide (vway v n p + 1 ≤ vway v m p)) = f := by
        have h1 := zCnt_up (n := v 6) (j := n) (p := fun m => decide (T ≤ vway v m p) && !decide (m = n)) (q := fun m => decide (T ≤ vway v m p)) n1 (fun i hi => by simp [hi]) (by simp) (by simpa using n2)
        have h2 : zCnt (v 6) (fun m => decide (vway v n p + 1 ≤ vway v m p)) = zCnt (v 6) (fun m => decide (T ≤ vway v m p) && !decide (m = n)) := zCnt_congr (fun m hm => by
          have := hT m hm
          by_cases w : vway v n p + 1 ≤ vway v m p
          · rw [decide_eq_true w]; simp [(this.mp w).1, (this.mp w).2]
          · rw [decide_eq_false w]
            by_cases w2 : T ≤ vway v m p
            · have : m = n := Classical.byContradiction (fun w3 => w (this.mpr ⟨w2, w3⟩))
              simp [this]
            · simp [w2])
        omega
      refine ih (vway v n p + 1) (vnext v n) _ hc2 (fun hf => ?_) (fun m hm hmt => ?_) ?_ (fun b hb => ?_)
      · obtain ⟨e, he1, he2⟩ : ∃ e, e < v 6 ∧ vway v n p + 1 ≤ vway v e p := by
          refine Classical.byContradiction (fun w => ?_)
          have : zCnt (v 6) (fun m => decide (vway v n p + 1 ≤ vway v m p)) = zCnt (v 6) (fun _ => false) := zCnt_congr (fun m hm => decide_eq_false (fun w2 => w ⟨m, hm, w2⟩))
          have h0 : zCnt (v 6) (fun _ => false) = 0 := by
            have key : ∀ N, zCnt N (fun _ => false) = 0 := by
              intro N
              induction N with
              | zero => rfl
              | succ N ih => rw [zCnt_succ, if_neg (by decide)]; exact ih
            exact key _
          omega
        obtain ⟨k, hk⟩ := vfrom_some (v := v) (p := nd v n 0 + 1) (by omega)
        have hs := vfrom_spec hk
        have hnx : vnext v n = k := by unfold vnext; rw [hk]; rfl
        rw [hnx]
        obtain ⟨s1, s2⟩ := hs
        have e0 : nd v n 0 = v (10 + 12 * n + 0) := rfl
        rw [e0] at s2
        have wn := vway_if (hW n n1) hp
        have wk := vway_if (hW k s1) hp
        have we := vway_if (hW e he1) hp
        have an := hW n n1
        have ak := hW k s1
        have ae := hW e he1
        refine ⟨s1, ?_, fun m hm hmt => ?_⟩
        · rcases s2 with ⟨s2, s3⟩ | ⟨s2, s3⟩
          · have := s3 e he1
            split at wn <;> split at wk <;> split at we <;> omega
          · have := s2 e he1
            have := s3 e he1
            split at wn <;> split at wk <;> split at we <;> omega
        · have wm := vway_if (hW m hm) hp
          have am := hW m hm
          rcases s2 with ⟨s2, s3⟩ | ⟨s2, s3⟩
          · have := s3 m hm
            have := s3 e he1
            split at wn <;> split at wk <;> split at wm <;> split at we <;> omega
          · have := s2 m hm
            have := s3 m hm
            split at wn <;> split at wk <;> split at wm <;> split at we <;> omega
      · rcases Nat.lt_or_ge (vway v m p) T with q | q
        · exact hv m hm q
        · have := n3 m hm q
          have : m = n := vway_inj hW hd hp hm n1 (by omega)
          rw [this]; exact hcf'
      · cases hcn : can n with
        | false =>
          rw [Bool.false_and, if_neg (by decide)]
          cases any with
          | none =>
            intro m hm hmt
            rcases Nat.lt_or_ge (vway v m p) T with q | q
            · exact ha m hm q
            · have := n3 m hm q
              have : m = n := vway_inj hW hd hp hm n1 (by omega)
              rw [this]; exact hcn
          | some b =>
            obtain ⟨a1, a2, a3, a4⟩ := ha
            refine ⟨a1, a2, a3, fun m hm hcm hmt => ?_⟩
            rcases Nat.lt_or_ge (vway v m p) T with q | q
            · exact a4 m hm hcm q
            · have := n3 m hm q
              have : m = n := vway_inj hW hd hp hm n1 (by omega)
              rw [this, hcn] at hcm; cases hcm
        | true =>
          rw [hcn, Bool.true_and] at hcf'
          cases any with
          | none =>
            rw [Bool.true_and, Option.isNone_none, if_pos rfl]
            refine ⟨n1, hcn, hcf', fun m hm hcm hmt => ?_⟩
            rcases Nat.lt_or_ge (vway v m p) T with q | q
            · have := ha m hm q
              rw [hcm] at this; cases this
            · exact n3 m hm q
          | some b =>
            obtain ⟨a1, a2, a3, a4⟩ := ha
            rw [Bool.true_and, Option.isNone_some, if_neg (by decide)]
            refine ⟨a1, a2, a3, fun m hm hcm hmt => ?_⟩
            rcases Nat.lt_or_ge (vway v m p) T with q | q
            · exact a4 m hm hcm q
            · have := hat b rfl
              omega
      · split at hb
        · cases hb; omega
        · have := hat b hb
          omega
theorem vplace_min {v : zV} {g many few p : Nat} {but : Int32} (h6 : 0 < v 6) (hW : ∀ n, n < v 6 → v (10 + 12 * n + 0) ≤ 9999) (hd : ∀ n m, n < v 6 → m < v 6 → v (10 + 12 * n + 0) = v (10 + 12 * m + 0) → n = m) (hp : p ≤ 10000) : zMin (v 6) (vcan v g many few) (vkey v p (vfz v g many but)) (vplace v g many few but p) := by
  unfold vplace
  obtain ⟨k, hk⟩ := vfrom_some (v := v) (p := p) h6
  obtain ⟨s1, s2⟩ := vfrom_spec hk
  rw [hk]
  refine vscan_min hW hd hp (v 6) 0 k none ?_ (fun _ => ⟨s1, Nat.zero_le _, fun m hm _ => ?_⟩) (fun m hm h => absurd h (Nat.not_lt_zero _)) (fun m hm h => absurd h (Nat.not_lt_zero _)) (fun b hb => nomatch hb)
  · have key : ∀ N, zCnt N (fun m => decide (0 ≤ vway v m p)) = N := by
      intro N
      induction N with
      | zero => rfl
      | succ N ih => rw [zCnt_succ, ih, if_pos (by simp)]
    exact key _
  · have wk := vway_if (hW k s1) hp
    have wm := vway_if (hW m hm) hp
    have ak := hW k s1
    have am := hW m hm
    rcases s2 with ⟨s2, s3⟩ | ⟨s2, s3⟩
    · have := s3 m hm
      split at wk <;> split at wm <;> omega
    · have := s2 m hm
      have := s3 m hm
      have := s2 k s1
      split at wk <;> split at wm <;> omega
/-! the class's way: the least key so far -/
def vbest (can : Nat → Bool) (K : Nat → Nat) (k : Nat) : Option Nat × Nat := zFor k (fun n s => if can n && (s.1.isNone || decide (K n < s.2)) then (some n, K n) else s) (none, 0)
theorem vbest_t {can : Nat → Bool} {K : Nat → Nat} {k : Nat} (h : (can k && ((vbest can K k).1.isNone || decide (K k < (vbest can K k).2))) = true) : vbest can K (k + 1) = (some k, K k) := by
  show (if (can k && ((vbest can K k).1.isNone || decide (K k < (vbest can K k).2))) = true then (some k, K k) else vbest can K k) = _
  rw [if_pos h]
theorem vbest_f {can : Nat → Bool} {K : Nat → Nat} {k : Nat} (h : (can k && ((vbest can K k).1.isNone || decide (K k < (vbest can K k).2))) = false) : vbest can K (k + 1) = vbest can K k := by
  show (if (can k && ((vbest can K k).1.isNone || decide (K k < (vbest can K k).2))) = true then (some k, K k) else vbest can K k) = _
  rw [h, if_neg (by decide)]
theorem vbest_min {can : Nat → Bool} {K : Nat → Nat} : ∀ k, zMin k can K (vbest can K k).1 ∧ ∀ b, (vbest can K k).1 = some b → (vbest can K k).2 = K b := by
  intro k
  induction k with
  | zero => exact ⟨fun m hm => absurd hm (Nat.not_lt_zero m), fun b hb => nomatch hb⟩
  | succ k ih =>
    obtain ⟨h1, h2⟩ := ih
    cases hc : (can k && ((vbest can K k).1.isNone || decide (K k < (vbest can K k).2))) with
    | true =>
      rw [vbest_t hc]
      refine ⟨?_, fun b hb => by cases hb; rfl⟩
      simp only [Bool.and_eq_true, Bool.or_eq_true, decide_eq_true_eq] at hc
      refine ⟨by omega, hc.1, fun m hm hcm => ?_⟩
      rcases Nat.lt_or_ge m k with q | q
      · cases hv : (vbest can K k).1 with
        | none =>
          rw [hv] at h1
          have := h1 m q
          rw [hcm] at this; cases this
        | some b =>
          rw [hv] at h1
          have h3 := h1.2.2 m q hcm
          have h4 := h2 b hv
          rcases hc.2 with w | w
          · rw [hv] at w; cases w
          · omega
      · have : m = k := by omega
        rw [this]; exact Nat.le_refl _
    | false =>
      rw [vbest_f hc]
      refine ⟨?_, h2⟩
      cases hv : (vbest can K k).1 with
      | none =>
        rw [hv] at h1 hc
        intro m hm
        rcases Nat.lt_or_ge m k with q | q
        · exact h1 m q
        · have : m = k := by omega
          subst this
          simpa using hc
      | some b =>
        rw [hv] at h1 hc
        refine ⟨by have := h1.1; omega, h1.2.1, fun m hm hcm => ?_⟩
        rcases Nat.lt_or_ge m k with q | q
        · exact h1.2.2 m q hcm
        · have : m = k := by omega
          subst this
          have h4 := h2 b hv
          rw [hcm] at hc
          simp at hc
          omega
theorem vbest_place {v : zV} {g many few p : Nat} {but : Int32} (h6 : 0 < v 6) (hW : ∀ n, n < v 6 → v (10 + 12 * n + 0) ≤ 9999) (hd : ∀ n m, n < v 6 → m < v 6 → v (10 + 12 * n + 0) = v (10 + 12 * m + 0) → n = m) (hp : p ≤ 10000) : (vbest (vcan v g many few) (vkey v p (vfz v g many but)) (v 6)).1 = vplace v g many few but p :=
  zMin_eq (fun a b ha hb e => vkey_inj hW hd hp ha hb e) (vbest_min (v 6)).1 (vplace_min h6 hW hd hp)
