/-- while the repairs go on -/
def zFx (v : zV) (k : Nat) (s : zV) : Prop := zWF s ∧ ∀ i, (∀ j, j < k → i < 268 + 23 * (vord v 0).2 j + 6 ∨ 268 + 23 * (vord v 0).2 j + 17 ≤ i) → s i = vpays v (vord v 0).1 i
theorem vord_ne (v : zV) {i j : Nat} (hi : i < (vord v 0).1) (hj : j < (vord v 0).1) (h : i ≠ j) : (vord v 0).2 i ≠ (vord v 0).2 j := fun e => h ((vord_ok v 0).2.2.2.1 i j hi hj e)
theorem zFx.own {v s : zV} (hW : zWF v) {k c : Nat} (h : zFx v k s) (hk : k < (vord v 0).1) (hc : c < 23) : s (268 + 23 * (vord v 0).2 k + c) = v (268 + 23 * (vord v 0).2 k + c) := by
  rw [h.2 _ (fun j hj => by
    have := vord_ne v (show j < (vord v 0).1 by omega) hk (by omega)
    omega), vpays_far hW (Nat.le_refl _) (by omega)]
theorem zFx.low {v s : zV} (hW : zWF v) {k i : Nat} (h : zFx v k s) (hi : i < 202) : s i = v i := by
  rw [h.2 _ (fun j hj => by omega), vpays_far hW (Nat.le_refl _) (by omega)]
theorem zFx.add {v s : zV} (hW : zWF v) {k : Nat} (h : zFx v k s) (hk : k < (vord v 0).1) : zWF (vadd v s k) ∧ (∀ i, i ≠ 268 + 23 * (vord v 0).2 k + 6 → vadd v s k i = s i) := by
  have hb := vbidder hW hk
  have h8 : s 8 = v 8 := h.low hW (by omega)
  have hu := (vsell_ok hW 0).2.1 k hk
  have hu : vunits v 0 k ≤ vneed v 0 ((vord v 0).2 k) := hu
  have hn : 1 ≤ vneed v 0 ((vord v 0).2 k) := hb.2.2.2.2.2.2
  have h7 := (vneed_le hW (d := 0) hb.1).2
  have hpr := h.own hW hk (c := 6) (by decide)
  unfold vneed at hu hn
  have ho : ∀ i, i ≠ 268 + 23 * (vord v 0).2 k + 6 → vadd v s k i = s i := fun i hi => vset_off hi
  have hg : (vord v 0).2 k < s 8 := by rw [h8]; exact hb.1
  have h10 := (h.1.sh hg).2
  refine ⟨h.1.ofGrp hg (fun i hi => ho i (by omega)) ?_ (fun j hj => ?_) (fun j t hj ht e => ?_), ho⟩
  · show vset s _ _ _ ≤ 7000
    rw [vset_at, hpr]
    have e : gp v ((vord v 0).2 k) 6 = v (268 + 23 * (vord v 0).2 k + 6) := rfl
    omega
  · rw [ho _ (by omega)]; exact h.1.holds hg hj
  · rw [ho _ (by omega), ho _ (by omega)] at e; exact h.1.one hg hj ht e
theorem vfix_ok {v : zV} (hW : zWF v) : ∀ k, k ≤ (vord v 0).1 → zFx v k (vfix v k).1 ∧ (vfix v k).2 ≤ 10 * k := by
  intro k
  induction k with
  | zero => intro _; exact ⟨⟨vpays_wf hW (Nat.le_refl _), fun i _ => rfl⟩, Nat.le_refl _⟩
  | succ k ih =>
    intro hk
    obtain ⟨h1, h2⟩ := ih (by omega)
    obtain ⟨a1, a2⟩ := h1.add hW (by omega)
    have hb := vbidder hW (show k < (vord v 0).1 by omega)
    have hg : (vord v 0).2 k < vadd v (vfix v k).1 k 8 := by rw [a2 8 (by omega), h1.low hW (by omega)]; exact hb.1
    obtain ⟨r1, r2, r3⟩ := vrn_rk a1 hg
    have r4 := (vrn_le a1 hg).1
    have key : zFx v (k + 1) (vrk (vadd v (vfix v k).1 k) ((vord v 0).2 k) (vrn (vadd v (vfix v k).1 k) ((vord v 0).2 k))) := ⟨r1, fun i hi => by
      have := hi k (by omega)
      rw [r2 i this, a2 i (by omega)]
      exact h1.2 i (fun j hj => hi j (by omega))⟩
    have key2 : (vfix v k).2 + vrn (vadd v (vfix v k).1 k) ((vord v 0).2 k) ≤ 10 * (k + 1) := Nat.le_trans (Nat.add_le_add h2 r4) (by omega)
    rw [vfix_succ]
    dsimp only
    exact ⟨key, key2⟩
theorem vend_wf {v : zV} (hW : zWF v) : zWF (vend v) := by
  obtain ⟨h1, h2⟩ := vfix_ok hW _ (Nat.le_refl _)
  have w1 := hW.2.1
  refine h1.1.ofTop (fun i hi h4 _ _ => vset_off h4) ?_ ?_ ?_
  · show vset _ 4 _ 4 ≤ _
    rw [vset_at]; omega
  · show vset _ 4 _ 9 ≤ _
    rw [vset_off (by decide)]; exact h1.1.hN
  · intro k hk
    have e : vend v 9 = (vfix v (vord v 0).1).1 9 := vset_off (by decide)
    show vset _ 4 _ (498 + 5 * k + 2) ≤ 9999
    rw [vset_off (by omega)]
    rw [e] at hk
    exact h1.1.hist hk
theorem vshift_hi {s : zV} {k c : Nat} (hk : k < 39) (hc : c < 5) : vshift s (498 + 5 * k + c) = s (498 + 5 * (k + 1) + c) := by
  unfold vshift
  rw [if_pos (by omega)]
  congr 1
  omega
theorem vrec_off {s : zV} {a b c d i : Nat} (h : i < 498 + 5 * s 9 ∨ 498 + 5 * s 9 + 5 ≤ i) (h9 : i ≠ 9) : vrec s a b c d i = s i := by
  unfold vrec
  rw [vset_off h9, vset_off (by omega), vset_off (by omega), vset_off (by omega), vset_off (by omega), vset_off (by omega)]
theorem vrec_2 {s : zV} {a b c d : Nat} : vrec s a b c d (498 + 5 * s 9 + 2) = b := by
  unfold vrec
  rw [vset_off (by omega), vset_off (by omega), vset_off (by omega), vset_at]
theorem vrec_9 {s : zV} {a b c d : Nat} : vrec s a b c d 9 = s 9 + 1 := by
  unfold vrec
  rw [vset_at]
theorem vrecord_low {s : zV} {a b c d i : Nat} (h : i < 498) (h9 : i ≠ 9) : vrecord s a b c d i = s i := by
  unfold vrecord
  split
  · rw [vrec_off (by omega) h9]
    unfold vshift
    rw [if_neg (by omega), if_neg h9]
  · exact vrec_off (by omega) h9
theorem vrecord_wf {s : zV} (hW : zWF s) {a b c d : Nat} (hb : b ≤ 9999) : zWF (vrecord s a b c d) := by
  have h9 := hW.hN
  have key : ∀ r : zV, r 9 < 40 → (∀ k, k < r 9 → hs r k 2 ≤ 9999) → vrec r a b c d 9 ≤ 40 ∧ ∀ k, k < vrec r a b c d 9 → hs (vrec r a b c d) k 2 ≤ 9999 := by
    intro r h1 h2
    refine ⟨by rw [vrec_9]; omega, fun k hk => ?_⟩
    rw [vrec_9] at hk
    show vrec r a b c d (498 + 5 * k + 2) ≤ _
    rcases Nat.lt_or_ge k (r 9) with q | q
    · rw [vrec_off (by omega) (by omega)]; exact h2 k q
    · have : k = r 9 := by omega
      subst this
      rw [vrec_2]; exact hb
  have h2 : vrecord s a b c d 9 ≤ 40 ∧ ∀ k, k < vrecord s a b c d 9 → hs (vrecord s a b c d) k 2 ≤ 9999 := by
    unfold vrecord
    split
    · rename_i q
      have e9 : vshift s 9 = 39 := rfl
      refine key _ (by rw [e9]; decide) (fun k hk => ?_)
      rw [e9] at hk
      show vshift s (498 + 5 * k + 2) ≤ _
      rw [vshift_hi (by omega) (by decide)]
      exact hW.hist (by omega)
    · exact key _ (by omega) (fun k hk => hW.hist hk)
  exact hW.ofTop (fun i hi h4 h5 h9 => vrecord_low hi h9) (by rw [vrecord_low (by decide) (by decide)]; exact hW.2.2.2.2.1) h2.1 h2.2
theorem vclr_le {v : zV} (hW : zWF v) : vclr v ≤ 9999 := (vsell_ok hW 0).2.2.2.2.2.1
theorem vround_wf {v : zV} (hW : zWF v) : zWF (vround v) := by
  have h1 := vrecord_wf (vend_wf hW) (a := vsold v) (b := vclr v) (c := (vord v 0).1) (d := vrepd v) (vclr_le hW)
  refine h1.ofTop (fun i hi h4 h5 h9 => vset_off h5) ?_ ?_ ?_
  · show vset _ 5 _ 4 ≤ _
    rw [vset_off (by decide)]; exact h1.2.2.2.2.1
  · show vset _ 5 _ 9 ≤ _
    rw [vset_off (by decide)]; exact h1.hN
  · intro k hk
    have e : vround v 9 = vrecord (vend v) (vsold v) (vclr v) (vord v 0).1 (vrepd v) 9 := vset_off (by decide)
    rw [e] at hk
    show vset _ 5 _ (498 + 5 * k + 2) ≤ 9999
    rw [vset_off (by omega)]
    exact h1.hist hk
/-! what the reference's steps leave -/
def zOw (w : Nat) (M M' : zM) : Prop := (∀ a, a ≠ w → M'.1 a = M.1 a) ∧ (∀ a j, ¬ (a = 118 ∧ j = 14) → M'.2.1 a j = M.2.1 a j) ∧ M'.2.2 = M.2.2
theorem zOw.rf {w : Nat} {M : zM} : zOw w M M := ⟨fun _ _ => rfl, fun _ _ _ => rfl, rfl⟩
theorem zOw.tr {w : Nat} {M M1 M2 : zM} (h : zOw w M M1) (h2 : zOw w M1 M2) : zOw w M M2 := ⟨fun a ha => (h2.1 a ha).trans (h.1 a ha), fun a j hj => (h2.2.1 a j hj).trans (h.2.1 a j hj), h2.2.2.trans h.2.2⟩
theorem zOw.put {w : Nat} {M M1 : zM} {j : Nat} {x : Int32} (h : zOw w M M1) : zOw w M (zU M1.1 w j x, M1.2) := ⟨fun a ha => by show zU M1.1 w j x a = _; rw [zU_off ha]; exact h.1 a ha, h.2.1, h.2.2⟩
theorem zOw.td {w d : Nat} {M M' : zM} (h : zOw w M M') (hw : zRow w) (hd : M.1 118 4 = nI d) : M'.1 118 4 = nI d := by rw [h.1 118 (by rcases hw with rfl | rfl <;> decide)]; exact hd
theorem zOw.rd {w : Nat} {M M' : zM} {v : zV} {d k : Nat} {s : zR} (h : zOw w M M') (hw : zRow w) (hR : zRd M v d k s) : zRd M' v d k s := by
  have g : ∀ a, 118 ≤ a → a ≠ 119 → a ≠ 120 → M'.1 a = M.1 a := fun a h1 h2 h3 => h.1 a (by rcases hw with rfl | rfl <;> omega)
  obtain ⟨⟨⟨h1, h2⟩, h3⟩, h4, h5, h6⟩ := hR
  refine ⟨⟨⟨by rw [g 118 (by decide) (by decide) (by decide)]; exact h1, fun j hj => by rw [g 122 (by decide) (by decide) (by decide), g 123 (by decide) (by decide) (by decide)]; exact h2 j hj⟩, fun k hk => by rw [g 124 (by decide) (by decide) (by decide)]; exact h3 k hk⟩, fun i hi => by rw [g 125 (by decide) (by decide) (by decide)]; exact h4 i hi, by rw [g 118 (by decide) (by decide) (by decide)]; exact h5, by rw [g 118 (by decide) (by decide) (by decide)]; exact h6⟩
theorem zOw.row {w a : Nat} {M M' : zM} (h : zOw w M M') (hw : zRow w) (ha : a ≠ 119 ∧ a ≠ 120) : M'.1 a = M.1 a := h.1 a (by rcases hw with rfl | rfl <;> omega)
def zSqI (w a j : Nat) : Bool := zSrI a j || a == w || (a == 118 && j == 15)
def zSq (w : Nat) (M M' : zM) : Prop := (∀ a j, zSqI w a j = false → M'.1 a j = M.1 a j) ∧ (∀ a j, ¬ (a = 118 ∧ j = 14) → a ≠ 121 → M'.2.1 a j = M.2.1 a j) ∧ M'.2.2 = M.2.2
theorem zSq.rf {w : Nat} {M : zM} : zSq w M M := ⟨fun _ _ _ => rfl, fun _ _ _ _ => rfl, rfl⟩
theorem zSq.tr {w : Nat} {M M1 M2 : zM} (h : zSq w M M1) (h2 : zSq w M1 M2) : zSq w M M2 := ⟨fun a j hj => (h2.1 a j hj).trans (h.1 a j hj), fun a j hj ha => (h2.2.1 a j hj ha).trans (h.2.1 a j hj ha), h2.2.2.trans h.2.2⟩
theorem zSq.ofSr {w : Nat} {M M' : zM} (h : zSr M M') : zSq w M M' := ⟨fun a j hj => h.1 a j (by unfold zSqI at hj; simp only [Bool.or_eq_false_iff] at hj; exact hj.1.1), fun a j _ ha => by rw [h.2.1 a ha], h.2.2⟩
theorem zSq.ofOw {w : Nat} {M M' : zM} (h : zOw w M M') : zSq w M M' := ⟨fun a j hj => by
  have : a ≠ w := by
    intro e
    subst e
    simp [zSqI] at hj
  rw [h.1 a this], fun a j hj _ => h.2.1 a j hj, h.2.2⟩
theorem zSq.put15 {w : Nat} {M : zM} {x : Int32} : zSq w M (zU M.1 118 15 x, M.2) := by
  refine ⟨fun a j hj => ?_, fun _ _ _ _ => rfl, rfl⟩
  show zU M.1 118 15 x a j = _
  by_cases e : a = 118
  · subst e
    rw [zU_at]
    by_cases e2 : j = 15
    · subst e2; simp [zSqI] at hj
    · exact if_neg e2
  · rw [zU_off e]
theorem zSq.td {w d : Nat} {M M' : zM} (h : zSq w M M') (hw : zRow w) (hd : M.1 118 4 = nI d) : M'.1 118 4 = nI d := by rw [h.1 118 4 (by rcases hw with rfl | rfl <;> rfl)]; exact hd
