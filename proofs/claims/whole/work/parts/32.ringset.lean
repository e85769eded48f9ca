/-! RINGS written -/
theorem vname_eq {v v' : zV} {b : Nat} (h : ∀ i, i < 6 → v' (b + i) = v (b + i)) : vname v' b = vname v b := by
  unfold vname vpk
  refine zFor_congr (fun i t hi => ?_)
  simp only [h i hi]
theorem zNo.vg {M : zM} {r : Nat} {v v' : zV} {cn cn' : Nat → Nat} (h : zNo M r v cn) (e : ∀ i, 6 ≤ i → i ≠ 7 → i ≠ 8 → i ≠ 9 → i < 202 → v' i = v i) (hc : ∀ n, n < v 6 → cn' n = cn n) : zNo M r v' cn' := by
  have h16 := h.1.2.2.2.2.1
  have e6 := e 6 (by omega) (by omega) (by omega) (by omega) (by omega)
  refine ⟨by rw [e6]; exact h.1, fun n hn => ?_⟩
  rw [e6] at hn
  have en : vname v' (10 + 12 * n + 6) = vname v (10 + 12 * n + 6) := vname_eq (fun i hi => e (10 + 12 * n + 6 + i) (by omega) (by omega) (by omega) (by omega) (by omega))
  rw [e (10 + 12 * n + 0) (by omega) (by omega) (by omega) (by omega) (by omega), e (10 + 12 * n + 1) (by omega) (by omega) (by omega) (by omega) (by omega), e (10 + 12 * n + 2) (by omega) (by omega) (by omega) (by omega) (by omega), e (10 + 12 * n + 3) (by omega) (by omega) (by omega) (by omega) (by omega), e (10 + 12 * n + 4) (by omega) (by omega) (by omega) (by omega) (by omega), e (10 + 12 * n + 5) (by omega) (by omega) (by omega) (by omega) (by omega), en, hc n hn]
  exact h.2 n hn
theorem zTe.vg {M : zM} {r : Nat} {v v' : zV} (h : zTe M r v) (e7 : v' 7 = v 7) (e : ∀ i, 202 ≤ i → i < 268 → v' i = v i) : zTe M r v' := by
  have h6 := h.1.2.2.2.2.1
  refine ⟨by rw [e7]; exact h.1, fun t ht => ?_⟩
  rw [e7] at ht
  have en : vname v' (202 + 11 * t + 5) = vname v (202 + 11 * t + 5) := vname_eq (fun i hi => e (202 + 11 * t + 5 + i) (by omega) (by omega))
  refine ⟨fun j hj => ?_, by rw [en]; exact h.nm ht⟩
  rw [e (202 + 11 * t + j) (by omega) (by omega)]; exact h.c ht hj
theorem vcost_vg {v v' : zV} {g : Nat} (e : ∀ c, c < 6 → v' (268 + 23 * g + c) = v (268 + 23 * g + c)) : vcost v' g = vcost v g ∧ vsh v' g = vsh v g := by
  unfold vcost vsh
  simp only [gp]
  rw [e 2 (by decide), e 3 (by decide), e 4 (by decide)]
  exact ⟨rfl, rfl⟩
theorem zGr.vg {M : zM} {r gn : Nat} {v v' : zV} {mn mn' : Nat → Nat} (h : zGr M r v gn mn) (e : ∀ i, 268 ≤ i → i < 498 → v' i = v i) (hm : ∀ g, g < gn → mn' g = mn g ∧ mn g ≤ 10) : zGr M r v' gn mn' := by
  have h10 := h.1.2.2.2.2.1
  refine ⟨h.1, fun g hg => ?_⟩
  obtain ⟨e1, e2⟩ := vcost_vg (v := v) (v' := v') (g := g) (fun c hc => e _ (by omega) (by omega))
  have en : vname v' (268 + 23 * g + 17) = vname v (268 + 23 * g + 17) := vname_eq (fun i hi => e (268 + 23 * g + 17 + i) (by omega) (by omega))
  obtain ⟨m1, m2⟩ := hm g hg
  refine ⟨fun j hj => by rw [e (268 + 23 * g + j) (by omega) (by omega)]; exact h.c hg hj, by rw [e1]; exact h.co hg, by rw [e2]; exact h.n hg, fun s hs => ?_, fun s hs hs2 => ?_, by rw [en]; exact h.nm hg⟩
  · rw [m1] at hs
    rw [e (268 + 23 * g + (7 + s)) (by omega) (by omega)]; exact h.sh hg hs
  · rw [m1] at hs
    rw [e2] at hs2
    exact h.un hg hs hs2
theorem zPa.vg {M : zM} {r : Nat} {v v' : zV} (h : zPa M r v) (e9 : v' 9 = v 9) (e : ∀ i, 498 ≤ i → i < 698 → v' i = v i) : zPa M r v' := by
  have h6 := h.1.2.2.2.2.1
  refine ⟨by rw [e9]; exact h.1, fun k hk j hj => ?_⟩
  rw [e9] at hk
  rw [e (498 + 5 * k + j) (by omega) (by omega)]; exact h.c hk hj
theorem zSk.vg {M : zM} {r : Nat} {v v' : zV} (h : zSk M r v) (e : ∀ j, j < 6 → v' j = v j) : zSk M r v' := fun j hj => by rw [e j hj]; exact h j hj
theorem vcnt_vg {v v' : zV} {k n : Nat} (hk : k ≤ 10) (hs : ∀ g, g < k → vsh v g ≤ 10) (e : ∀ i, 268 ≤ i → i < 498 → v' i = v i) : vcnt v' k n = vcnt v k n := by
  unfold vcnt
  refine zFor_congr (fun g a hg => ?_)
  have e2 := (vcost_vg (v := v) (v' := v') (g := g) (fun c hc => e _ (by omega) (by omega))).2
  rw [e2]
  refine zFor_congr (fun s b hb => ?_)
  have := hs g hg
  rw [show hol v' g s = hol v g s from e _ (by omega) (by omega)]
/-- tenants alone differ -/
theorem zRg.vT {M : zM} {r : Nat} {v v' : zV} (h : zRg M r v) (hW : zWF v) (e : ∀ i, (i < 202 ∨ 268 ≤ i) → v' i = v i) (ht : zTe M r v') : zRg M r v' := by
  have e8 : v' 8 = v 8 := e 8 (by omega)
  have hsh : ∀ g, g < v 8 → vsh v g ≤ 10 := fun g hg => (hW.sh hg).2
  refine ⟨h.i, h.n.vg (fun i _ _ _ _ hi => e i (by omega)) (fun n _ => ?_), ht, ?_, h.p.vg (e 9 (by omega)) (fun i h1 _ => e i (by omega)), h.s.vg (fun j hj => e j (by omega))⟩
  · rw [e8]; exact vcnt_vg hW.gN hsh (fun i h1 _ => e i (by omega))
  · rw [e8]; exact h.g.vg (fun i h1 _ => e i (by omega)) (fun g hg => ⟨(vcost_vg (fun c hc => e _ (by omega))).2, hsh g hg⟩)
theorem zTe.set {M : zM} {r t j x : Nat} {v : zV} (h : zTe M r v) (ht : t < v 7) (hj : j < 5) : zTe (zU M.1 (r + 3 + 1) (t * 6 + j) (nI x), M.2) r (vset v (202 + 11 * t + j) x) := by
  have h6 := h.1.2.2.2.2.1
  refine ⟨(by rw [vset_off (by omega)]; exact h.1.cg (zU_off (by omega))), fun t' ht' => ?_⟩
  rw [vset_off (by omega)] at ht'
  have en : vname (vset v (202 + 11 * t + j) x) (202 + 11 * t' + 5) = vname v (202 + 11 * t' + 5) := vname_eq (fun i hi => vset_off (by omega))
  refine ⟨fun j' hj' => ?_, ?_⟩
  · show zU M.1 (r + 3 + 1) (t * 6 + j) (nI x) (r + 3 + 1) (t' * 6 + j') = _
    by_cases q : t' = t ∧ j' = j
    · obtain ⟨rfl, rfl⟩ := q
      rw [zU_eq, vset_at]
    · rw [zU_nj (by omega), vset_off (by omega)]
      exact h.c ht' hj'
  · show zU M.1 (r + 3 + 1) (t * 6 + j) (nI x) (r + 3 + 1) (t' * 6 + 5) = _
    rw [zU_nj (by omega), en]
    exact h.nm ht'
theorem zRg.setT {M : zM} {r t j x : Nat} {v : zV} (h : zRg M r v) (hW : zWF v) (ht : t < v 7) (hj : j < 5) : zRg (zU M.1 (r + 3 + 1) (t * 6 + j) (nI x), M.2) r (vset v (202 + 11 * t + j) x) := by
  have h7 := hW.tN
  have h2 : zRg (zU M.1 (r + 3 + 1) (t * 6 + j) (nI x), M.2) r (vset v (202 + 11 * t + j) x) := by
    have key : ∀ a, a ≠ r + 4 → (zU M.1 (r + 3 + 1) (t * 6 + j) (nI x)) a = M.1 a := fun a ha => zU_off ha
    have hsh : ∀ g, g < v 8 → vsh v g ≤ 10 := fun g hg => (hW.sh hg).2
    have e8 : vset v (202 + 11 * t + j) x 8 = v 8 := vset_off (by omega)
    refine ⟨h.i, (h.n.cg (key _ (by omega)) (key _ (by omega))).vg (fun i _ _ _ _ hi => vset_off (by omega)) (fun n _ => ?_), h.t.set ht hj, ?_, (h.p.cg (key _ (by omega)) (key _ (by omega))).vg (vset_off (by omega)) (fun i h1 _ => vset_off (by omega)), (h.s.cg (key _ (by omega))).vg (fun j hj => vset_off (by omega))⟩
    · rw [e8]; exact vcnt_vg hW.gN hsh (fun i h1 _ => vset_off (by omega))
    · rw [e8]
      exact (h.g.cg (key _ (by omega)) (key _ (by omega))).vg (fun i h1 _ => vset_off (by omega)) (fun g hg => ⟨(vcost_vg (fun c hc => vset_off (by omega))).2, hsh g hg⟩)
  exact h2
/-- a node's number: class column c, the state's column d -/
theorem zRg.setN {M : zM} {r n c d x : Nat} {v : zV} (h : zRg M r v) (hW : zWF v) (hn : n < v 6) (hc : c = 2 ∧ d = 2 ∨ c = 5 ∧ d = 4 ∨ c = 6 ∧ d = 5) : zRg (zU M.1 (r + 1 + 1) (n * 8 + c) (nI x), M.2) r (vset v (10 + 12 * n + d) x) := by
  have h6 := hW.nN
  have key : ∀ a, a ≠ r + 2 → (zU M.1 (r + 1 + 1) (n * 8 + c) (nI x)) a = M.1 a := fun a ha => zU_off ha
  have hsh : ∀ g, g < v 8 → vsh v g ≤ 10 := fun g hg => (hW.sh hg).2
  have e8 : vset v (10 + 12 * n + d) x 8 = v 8 := vset_off (by omega)
  refine ⟨h.i, ?_, (h.t.cg (key _ (by omega)) (key _ (by omega))).vg (vset_off (by omega)) (fun i h1 h2 => vset_off (by omega)), ?_, (h.p.cg (key _ (by omega)) (key _ (by omega))).vg (vset_off (by omega)) (fun i h1 _ => vset_off (by omega)), (h.s.cg (key _ (by omega))).vg (fun j hj => vset_off (by omega))⟩
  · rw [e8]
    refine ⟨(by rw [vset_off (by omega)]; exact h.n.1.cg (zU_off (by omega))), fun m hm => ?_⟩
    rw [vset_off (by omega)] at hm
    have en : vname (vset v (10 + 12 * n + d) x) (10 + 12 * m + 6) = vname v (10 + 12 * m + 6) := vname_eq (fun i hi => vset_off (by omega))
    have ec : vcnt (vset v (10 + 12 * n + d) x) (v 8) m = vcnt v (v 8) m := vcnt_vg hW.gN hsh (fun i h1 _ => vset_off (by omega))
    rw [en, ec]
    show zU M.1 (r + 1 + 1) (n * 8 + c) (nI x) (r + 1 + 1) (m * 8 + 0) = _ ∧ zU M.1 (r + 1 + 1) (n * 8 + c) (nI x) (r + 1 + 1) (m * 8 + 1) = _ ∧ zU M.1 (r + 1 + 1) (n * 8 + c) (nI x) (r + 1 + 1) (m * 8 + 2) = _ ∧ zU M.1 (r + 1 + 1) (n * 8 + c) (nI x) (r + 1 + 1) (m * 8 + 3) = _ ∧ zU M.1 (r + 1 + 1) (n * 8 + c) (nI x) (r + 1 + 1) (m * 8 + 4) = _ ∧ zU M.1 (r + 1 + 1) (n * 8 + c) (nI x) (r + 1 + 1) (m * 8 + 5) = _ ∧ zU M.1 (r + 1 + 1) (n * 8 + c) (nI x) (r + 1 + 1) (m * 8 + 6) = _ ∧ zU M.1 (r + 1 + 1) (n * 8 + c) (nI x) (r + 1 + 1) (m * 8 + 7) = _
    obtain ⟨f0, f1, f2, f3, f4, f5, f6, f7⟩ := h.n.2 m hm
    rw [zU_nj (show m * 8 + 0 ≠ n * 8 + c by omega), zU_nj (show m * 8 + 1 ≠ n * 8 + c by omega), zU_nj (show m * 8 + 3 ≠ n * 8 + c by omega), zU_nj (show m * 8 + 4 ≠ n * 8 + c by omega), zU_nj (show m * 8 + 7 ≠ n * 8 + c by omega), vset_off (show 10 + 12 * m + 0 ≠ 10 + 12 * n + d by omega), vset_off (show 10 + 12 * m + 1 ≠ 10 + 12 * n + d by omega), vset_off (show 10 + 12 * m + 3 ≠ 10 + 12 * n + d by omega)]
    refine ⟨f0, f1, ?_, f3, f4, ?_, ?_, f7⟩
    · by_cases q : m = n ∧ c = 2
      · obtain ⟨rfl, rfl⟩ := q
        have : d = 2 := by omega
        subst this
        rw [zU_eq, vset_at]
      · rw [zU_nj (by omega), vset_off (by omega)]; exact f2
    · by_cases q : m = n ∧ c = 5
      · obtain ⟨rfl, rfl⟩ := q
        have : d = 4 := by omega
        subst this
        rw [zU_eq, vset_at]
      · rw [zU_nj (by omega), vset_off (by omega)]; exact f5
    · by_cases q : m = n ∧ c = 6
      · obtain ⟨rfl, rfl⟩ := q
        have : d = 5 := by omega
        subst this
        rw [zU_eq, vset_at]
      · rw [zU_nj (by omega), vset_off (by omega)]; exact f6
  · rw [e8]
    exact (h.g.cg (key _ (by omega)) (key _ (by omega))).vg (fun i h1 _ => vset_off (by omega)) (fun g hg => ⟨(vcost_vg (fun c hc => vset_off (by omega))).2, hsh g hg⟩)
/-- a number of the ring's own -/
theorem zRg.setS {M : zM} {r j x : Nat} {v : zV} (h : zRg M r v) (hW : zWF v) (hj : j < 6) : zRg (zU M.1 r (4 + j) (nI x), M.2) r (vset v j x) := by
  have key : ∀ a, a ≠ r → (zU M.1 r (4 + j) (nI x)) a = M.1 a := fun a ha => zU_off ha
  have hsh : ∀ g, g < v 8 → vsh v g ≤ 10 := fun g hg => (hW.sh hg).2
  have e8 : vset v j x 8 = v 8 := vset_off (by omega)
  refine ⟨h.i, (h.n.cg (key _ (by omega)) (key _ (by omega))).vg (fun i h6 _ _ _ hi => vset_off (by omega)) (fun n _ => ?_), (h.t.cg (key _ (by omega)) (key _ (by omega))).vg (vset_off (by omega)) (fun i h1 h2 => vset_off (by omega)), ?_, (h.p.cg (key _ (by omega)) (key _ (by omega))).vg (vset_off (by omega)) (fun i h1 _ => vset_off (by omega)), fun i hi => ?_⟩
  · rw [e8]; exact vcnt_vg hW.gN hsh (fun i h1 _ => vset_off (by omega))
  · rw [e8]
    exact (h.g.cg (key _ (by omega)) (key _ (by omega))).vg (fun i h1 _ => vset_off (by omega)) (fun g hg => ⟨(vcost_vg (fun c hc => vset_off (by omega))).2, hsh g hg⟩)
  · show zU M.1 r (4 + j) (nI x) r (4 + i) = _
    by_cases q : i = j
    · subst q; rw [zU_eq, vset_at]
    · rw [zU_nj (by omega), vset_off q]; exact h.s i hi
/-- a group's progress -/
theorem zRg.setP {M : zM} {r g x : Nat} {v : zV} (h : zRg M r v) (hW : zWF v) (hg : g < v 8) : zRg (zU M.1 (r + 5 + 1) (g * 21 + 6) (nI x), M.2) r (vset v (268 + 23 * g + 6) x) := by
  have h8 := hW.gN
  have key : ∀ a, a ≠ r + 6 → (zU M.1 (r + 5 + 1) (g * 21 + 6) (nI x)) a = M.1 a := fun a ha => zU_off ha
  have hsh : ∀ g, g < v 8 → vsh v g ≤ 10 := fun g hg => (hW.sh hg).2
  have e8 : vset v (268 + 23 * g + 6) x 8 = v 8 := vset_off (by omega)
  have ec : ∀ g', vcost (vset v (268 + 23 * g + 6) x) g' = vcost v g' ∧ vsh (vset v (268 + 23 * g + 6) x) g' = vsh v g' := fun g' => vcost_vg (fun c hc => vset_off (by omega))
  refine ⟨h.i, (h.n.cg (key _ (by omega)) (key _ (by omega))).vg (fun i h6 _ _ _ hi => vset_off (by omega)) (fun n _ => ?_), (h.t.cg (key _ (by omega)) (key _ (by omega))).vg (vset_off (by omega)) (fun i h1 h2 => vset_off (by omega)), ?_, (h.p.cg (key _ (by omega)) (key _ (by omega))).vg (vset_off (by omega)) (fun i h1 _ => vset_off (by omega)), (h.s.cg (key _ (by omega))).vg (fun j hj => vset_off (by omega))⟩
  · rw [e8]
    unfold vcnt
    refine zFor_congr (fun g' a hg' => ?_)
    rw [(ec g').2]
    refine zFor_congr (fun s b hb => ?_)
    have := hsh g' hg'
    rw [show hol (vset v (268 + 23 * g + 6) x) g' s = hol v g' s from vset_off (by omega)]
  · rw [e8]
    refine ⟨h.g.1.cg (zU_off (by omega)), fun g' hg' => ?_⟩
    have hs9 := hsh g' hg'
    rw [(ec g').1, (ec g').2]
    have en : vname (vset v (268 + 23 * g + 6) x) (268 + 23 * g' + 17) = vname v (268 + 23 * g' + 17) := vname_eq (fun i hi => vset_off (by omega))
    rw [en]
    refine ⟨fun j hj => ?_, ?_, ?_, fun s hs => ?_, fun s hs hs2 => by omega, ?_⟩
    · show zU M.1 (r + 5 + 1) (g * 21 + 6) (nI x) (r + 5 + 1) (g' * 21 + j) = _
      by_cases q : g' = g ∧ j = 6
      · obtain ⟨rfl, rfl⟩ := q
        rw [zU_eq, vset_at]
      · rw [zU_nj (by omega), vset_off (by omega)]; exact h.g.c hg' hj
    · show zU M.1 (r + 5 + 1) (g * 21 + 6) (nI x) (r + 5 + 1) (g' * 21 + 7) = _
      rw [zU_nj (by omega)]; exact h.g.co hg'
    · show zU M.1 (r + 5 + 1) (g * 21 + 6) (nI x) (r + 5 + 1) (g' * 21 + 9) = _
      rw [zU_nj (by omega)]; exact h.g.n hg'
    · show zU M.1 (r + 5 + 1) (g * 21 + 6) (nI x) (r + 5 + 1) (g' * 21 + (10 + s)) = _
      rw [zU_nj (by omega), vset_off (by omega)]
      exact h.g.sh hg' hs
    · show zU M.1 (r + 5 + 1) (g * 21 + 6) (nI x) (r + 5 + 1) (g' * 21 + 20) = _
      rw [zU_nj (by omega)]; exact h.g.nm hg'
/-! how many shards a node holds, when one moves -/
theorem zFor_cnt {m a : Nat} {p : Nat → Bool} : zFor m (fun s a => if p s then a + 1 else a) a = a + zCnt m p := by
  induction m with
  | zero => rfl
  | succ m ih =>
    rw [zFor_succ, ih, zCnt_succ]
    split <;> omega
theorem vcnt_succ (v : zV) (k n : Nat) : vcnt v (k + 1) n = vcnt v k n + zCnt (vsh v k) (fun s => hol v k s == n) := by
  show zFor (vsh v k) (fun s a => if hol v k s = n then a + 1 else a) (vcnt v k n) = _
  rw [← zFor_cnt]
  exact zFor_congr (fun s a _ => by simp)
theorem vcnt_put {v : zV} {g s to : Nat} (hs : s < vsh v g) (hs10 : s < 10) (n : Nat) (hne : hol v g s ≠ to) (hsh : ∀ g', vsh (vset v (268 + 23 * g + 7 + s) to) g' = vsh v g') (hle : ∀ g', g' ≠ g → vsh v g' ≤ 10 ∨ g < g') : ∀ k, k ≤ 10 → (∀ g', g' < k → vsh v g' ≤ 10) → vcnt (vset v (268 + 23 * g + 7 + s) to) k n = if g < k then (if n = hol v g s then vcnt v k n - 1 else if n = to then vcnt v k n + 1 else vcnt v k n) else vcnt v k n := by
  intro k
  induction k with
  | zero => intro _ _; rw [if_neg (by omega)]; rfl
  | succ k ih =>
    intro hk hsk
    have ih := ih (by omega) (fun g' h => hsk g' (by omega))
    rw [vcnt_succ, vcnt_succ, hsh, ih]
    by_cases e : k = g
    · subst e
      rw [if_neg (show ¬ k < k by omega), if_pos (show k < k + 1 by omega)]
      have ho : ∀ i, i ≠ s → hol (vset v (268 + 23 * k + 7 + s) to) k i = hol v k i := fun i hi => vset_off (by omega)
      have hat : hol (vset v (268 + 23 * k + 7 + s) to) k s = to := by
        show vset v (268 + 23 * k + 7 + s) to (268 + 23 * k + (7 + s)) = to
        rw [show 268 + 23 * k + (7 + s) = 268 + 23 * k + 7 + s by omega, vset_at]
      by_cases q1 : n = hol v k s
      · rw [if_pos q1]
        have := zCnt_up (n := vsh v k) (j := s) (p := fun i => hol (vset v (268 + 23 * k + 7 + s) to) k i == n) (q := fun i => hol v k i == n) hs (fun i hi => by rw [ho i hi]) (by rw [hat]; exact beq_false_of_ne (fun w => hne (by rw [w, q1]))) (by rw [q1]; exact beq_self_eq_true _)
        omega
      · rw [if_neg q1]
        by_cases q2 : n = to
        · rw [if_pos q2]
          have := zCnt_up (n := vsh v k) (j := s) (p := fun i => hol v k i == n) (q := fun i => hol (vset v (268 + 23 * k + 7 + s) to) k i == n) hs (fun i hi => by rw [ho i hi]) (beq_false_of_ne (fun w => q1 w.symm)) (by rw [hat, q2]; exact beq_self_eq_true _)
          omega
        · rw [if_neg q2]
          rw [zCnt_congr (p := fun i => hol (vset v (268 + 23 * k + 7 + s) to) k i == n) (q := fun i => hol v k i == n) (fun i hi => by
            by_cases w : i = s
            · subst w
              rw [hat, beq_false_of_ne (fun w => q2 w.symm), beq_false_of_ne (fun w => q1 w.symm)]
            · rw [ho i w])]
    · have hc : zCnt (vsh v k) (fun i => hol (vset v (268 + 23 * g + 7 + s) to) k i == n) = zCnt (vsh v k) (fun i => hol v k i == n) := zCnt_congr (fun i hi => by
        have := hsk k (by omega)
        rw [show hol (vset v (268 + 23 * g + 7 + s) to) k i = hol v k i from vset_off (by omega)])
      rw [hc]
      by_cases q : g < k
      · rw [if_pos q, if_pos (show g < k + 1 by omega)]
        by_cases q1 : n = hol v g s
        · rw [if_pos q1, if_pos q1]
          have hpos : 1 ≤ vcnt v k n := by
            have key : ∀ j, g < j → j ≤ k → 1 ≤ vcnt v j n := by
              intro j
              induction j with
              | zero => intro h; omega
              | succ j ihj =>
                intro h1 h2
                rw [vcnt_succ]
                rcases Nat.lt_or_ge g j with w | w
                · have := ihj w (by omega); omega
                · have : g = j := by omega
                  subst this
                  have hz : 0 < zCnt (vsh v g) (fun i => hol v g i == n) := by
                    have key2 : ∀ (N : Nat) (P : Nat → Bool) (i : Nat), i < N → P i = true → 0 < zCnt N P := by
                      intro N P i
                      induction N with
                      | zero => intro q; omega
                      | succ N ihN =>
                        intro hi hp
                        rw [zCnt_succ]
                        rcases Nat.lt_or_ge i N with u | u
                        · have := ihN u hp; split <;> omega
                        · have : i = N := by omega
                          subst this
                          rw [hp, if_pos rfl]; omega
                    exact key2 _ _ s hs (by rw [q1]; exact beq_self_eq_true _)
                  omega
            exact key k q (Nat.le_refl _)
          omega
        · rw [if_neg q1, if_neg q1]
          split <;> omega
      · rw [if_neg q, if_neg (show ¬ g < k + 1 by omega)]
