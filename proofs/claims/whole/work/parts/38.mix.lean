/-! TENANTS aside: what a repair looks at -/
def zNT (s s' : zV) : Prop := ∀ i, (i < 202 ∨ 268 ≤ i) → s i = s' i
theorem zNT.sh {s s' : zV} (h : zNT s s') (g : Nat) : vcost s g = vcost s' g ∧ vsh s g = vsh s' g := vcost_vg (fun c hc => h _ (by omega))
theorem zNT.ho {s s' : zV} (h : zNT s s') (g j : Nat) : hol s g j = hol s' g j := h _ (by omega)
theorem zNT.nod {s s' : zV} (h : zNT s s') {n c : Nat} (hn : n < 16) (hc : c < 12) : nd s n c = nd s' n c := h _ (by omega)
theorem zNT.has {s s' : zV} (h : zNT s s') (g many n : Nat) : vhas s g many n = vhas s' g many n := zAny_congr (fun j _ => by rw [h.ho])
theorem zNT.cnt {s s' : zV} (h : zNT s s') (k n : Nat) : vcnt s k n = vcnt s' k n := by
  unfold vcnt
  refine zFor_congr (fun g a _ => ?_)
  rw [(h.sh g).2]
  exact zFor_congr (fun j b _ => by rw [h.ho])
theorem zNT.can {s s' : zV} (h : zNT s s') {g many few n : Nat} (hn : n < 16) : vcan s g many few n = vcan s' g many few n := by
  unfold vcan von
  rw [h.nod hn (by decide), h.nod hn (by decide), h.has, h 8 (by omega), h.cnt]
  congr 2
  congr 1
  exact zFor_congr (fun j b _ => by rw [h.ho])
theorem zNT.fz {s s' : zV} (h : zNT s s') {g many n : Nat} {but : Int32} (hn : n < 16) (hh : ∀ j, j < many → hol s' g j < 16) : vfz s g many but n = vfz s' g many but n := by
  unfold vfz
  congr 1
  exact zAny_congr (fun j hj => by rw [h.ho, h.nod (hh j hj) (by decide), h.nod hn (by decide)])
theorem vbest_congr {can can' : Nat → Bool} {K K' : Nat → Nat} {N : Nat} (h : ∀ n, n < N → can n = can' n ∧ K n = K' n) : vbest can K N = vbest can' K' N := by
  unfold vbest
  exact zFor_congr (fun i t hi => by rw [(h i hi).1, (h i hi).2])
theorem zNT.pm {s s' : zV} (h : zNT s s') (hW : zWF s) (hW' : zWF s') {g j : Nat} (hg : g < s 8) (hj : j < vsh s g) : vpm s g j = vpm s' g j := by
  have hj' : j < vsh s' g := by rw [← (h.sh g).2]; exact hj
  have hg' : g < s' 8 := by rw [← h 8 (by omega)]; exact hg
  have hh := hW.holds hg hj
  have hh' := hW'.holds hg' hj'
  have e6 : s 6 = s' 6 := h 6 (by omega)
  have h16 := hW.nN
  have hn := (hW.node hh).1
  have hn' := (hW'.node hh').1
  have ep : nd s (hol s g j) 0 + 1 = nd s' (hol s' g j) 0 + 1 := by rw [h.ho, h.nod (by rw [h.ho] at hh; omega) (by decide)]
  unfold vpm
  rw [← vbest_place (by omega) (fun n hn => (hW.node hn).1) (fun n m hn hm e => hW.apart hn hm e) (by omega), ← vbest_place (by omega) (fun n hn => (hW'.node hn).1) (fun n m hn hm e => hW'.apart hn hm e) (by omega), ← e6, ← (h.sh g).2, ← ep]
  refine congrArg Prod.fst (vbest_congr (fun n hn => ⟨h.can (by omega), ?_⟩))
  unfold vkey vway
  rw [h.fz (by omega) (fun i hi => by
    have := hW'.holds hg' (show i < vsh s' g by rw [← (h.sh g).2]; exact hi)
    omega), show s (10 + 12 * n + 0) = s' (10 + 12 * n + 0) from h _ (by omega)]
theorem zNT.av {s s' : zV} (h : zNT s s') {g j : Nat} (hh : hol s' g j < 16) : vav s 0 g j = vav s' 0 g j := by
  unfold vav
  rw [h.ho, h.nod hh (by decide)]
theorem zNT.dam {s s' : zV} (h : zNT s s') (hW' : zWF s') {g : Nat} (hg : g < s' 8) : vfm s 0 g = vfm s' 0 g ∧ vdam s 0 g = vdam s' 0 g := by
  have h16 := hW'.nN
  have e : vfm s 0 g = vfm s' 0 g := by
    unfold vfm
    rw [(h.sh g).2]
    exact zFst_congr (fun j hj => by rw [h.av (by have := hW'.holds hg hj; omega)])
  refine ⟨e, ?_⟩
  unfold vdam
  rw [e, (h.sh g).2]
theorem zNT.stop {s s' : zV} (h : zNT s s') (hW : zWF s) (hW' : zWF s') {g : Nat} (hg : g < s 8) : vstop s g = vstop s' g := by
  have hg' : g < s' 8 := by rw [← h 8 (by omega)]; exact hg
  obtain ⟨e1, e2⟩ := h.dam hW' hg'
  unfold vstop
  rw [(h.sh g).1, h (268 + 23 * g + 6) (by omega), e2]
  cases hd : vdam s' 0 g with
  | false => simp
  | true =>
    have hlt := vfm_lt (e2.trans hd)
    rw [h.pm hW hW' hg hlt, e1]
theorem zNT.rep1 {s s' : zV} (h : zNT s s') (g sh to : Nat) : zNT (vrep1 s g sh to) (vrep1 s' g sh to) := by
  intro i hi
  by_cases q1 : i = 268 + 23 * g + 6
  · subst q1; rw [vrep1_pr, vrep1_pr, (h.sh g).1, h _ (by omega)]
  · by_cases q2 : i = 268 + 23 * g + 7 + sh
    · subst q2
      rw [show 268 + 23 * g + 7 + sh = 268 + 23 * g + (7 + sh) by omega, vrep1_sh, vrep1_sh]
    · rw [vrep1_off q2 q1, vrep1_off q2 q1]; exact h i hi
theorem zNT.rk {s s' : zV} (h : zNT s s') (hW : zWF s) (hW' : zWF s') {g : Nat} (hg : g < s 8) : ∀ k, (∀ j, j < k → vstop (vrk s g j) g = false) → zNT (vrk s g k) (vrk s' g k) ∧ ∀ j, j < k → vstop (vrk s' g j) g = false := by
  have hg' : g < s' 8 := by rw [← h 8 (by omega)]; exact hg
  intro k
  induction k with
  | zero => intro _; exact ⟨h, fun j hj => absurd hj (Nat.not_lt_zero j)⟩
  | succ k ih =>
    intro hs
    obtain ⟨i1, i2⟩ := ih (fun j hj => hs j (by omega))
    obtain ⟨⟨w1, w2, -⟩, -⟩ := vrk_ok hW hg k (fun j hj => hs j (by omega))
    obtain ⟨⟨w1', w2', -⟩, -⟩ := vrk_ok hW' hg' k i2
    have hgk : g < vrk s g k 8 := by rw [w2 8 (by omega)]; exact hg
    have hst := hs k (by omega)
    have hst' : vstop (vrk s' g k) g = false := (i1.stop w1 w1' hgk).symm.trans hst
    obtain ⟨c1, c2, to, c3⟩ := vstop_f hst
    obtain ⟨e1, e2⟩ := i1.dam w1' (by rw [w2' 8 (by omega)]; exact hg')
    have c3' : vpm (vrk s' g k) g (vfm (vrk s' g k) 0 g) = some to := by rw [← e1, ← i1.pm w1 w1' hgk (vfm_lt c2)]; exact c3
    refine ⟨?_, fun j hj => ?_⟩
    · rw [vrk_succ c3, vrk_succ c3', e1]; exact i1.rep1 _ _ _
    · rcases Nat.lt_or_ge j k with q | q
      · exact i2 j q
      · have : j = k := by omega
        rw [this]; exact hst'
theorem zNT.rn {s s' : zV} (h : zNT s s') (hW : zWF s) (hW' : zWF s') {g : Nat} (hg : g < s 8) : vrn s g = vrn s' g ∧ zNT (vrk s g (vrn s g)) (vrk s' g (vrn s' g)) := by
  have hg' : g < s' 8 := by rw [← h 8 (by omega)]; exact hg
  obtain ⟨a1, a2, a3⟩ := vrn_le hW hg
  obtain ⟨b1, b2⟩ := h.rk hW hW' hg _ a2
  obtain ⟨⟨w1, w2, -⟩, -⟩ := vrk_ok hW hg _ a2
  obtain ⟨⟨w1', w2', -⟩, -⟩ := vrk_ok hW' hg' _ b2
  have hst : vstop (vrk s' g (vrn s g)) g = true := (b1.stop w1 w1' (by rw [w2 8 (by omega)]; exact hg)).symm.trans a3
  have e : vrn s' g = vrn s g := zFst_eq (p := fun k => vstop (vrk s' g k) g) (show vrn s g < 11 by omega) hst b2
  rw [e]
  exact ⟨rfl, b1⟩
/-! the class's order: each bid pays and repairs -/
def vmix (t s : zV) : zV := fun i => if 202 ≤ i ∧ i < 268 then t i else s i
theorem vmix_t {t s : zV} {i : Nat} (h : 202 ≤ i ∧ i < 268) : vmix t s i = t i := if_pos h
theorem vmix_s {t s : zV} {i : Nat} (h : i < 202 ∨ 268 ≤ i) : vmix t s i = s i := if_neg (by omega)
theorem vmix_wf {t s : zV} (hs : zWF s) (ht : zWF t) (e7 : t 7 = s 7) : zWF (vmix t s) := hs.ofTen (fun i hi => vmix_s hi) (fun j hj => by
  have h7 := hs.tN
  have h1 := ht.ten (t := j) (by rw [e7]; exact hj)
  simp only [tn]
  rw [vmix_t (by omega), vmix_t (by omega), vmix_t (by omega), vmix_t (by omega)]
  exact h1)
theorem vmix_pay {v t s : zV} {k : Nat} (ht : vten v 0 k < 6) : vpay1 v (vmix t s) k = vmix (vpay1 v t k) s := by
  funext i
  by_cases q : 202 ≤ i ∧ i < 268
  · rw [vmix_t q]
    unfold vpay1
    by_cases q4 : i = 202 + 11 * vten v 0 k + 4
    · subst q4; rw [vset_at, vset_at, vmix_t (by omega)]
    · rw [vset_off q4, vset_off q4]
      by_cases q3 : i = 202 + 11 * vten v 0 k + 3
      · subst q3; rw [vset_at, vset_at, vmix_t (by omega)]
      · rw [vset_off q3, vset_off q3]
        by_cases q2 : i = 202 + 11 * vten v 0 k + 2
        · subst q2; rw [vset_at, vset_at, vmix_t (by omega)]
        · rw [vset_off q2, vset_off q2, vmix_t q]
  · rw [vmix_s (by omega), vpay1_off (by omega), vmix_s (by omega)]
def vcst (v : zV) (k : Nat) : zV := vmix (vpays v k) (vfix v k).1
theorem vcst_wf {v : zV} (hW : zWF v) {k j : Nat} (hk : k ≤ (vord v 0).1) (hj : j ≤ (vord v 0).1) : zWF (vmix (vpays v j) (vfix v k).1) := by
  obtain ⟨h1, -⟩ := vfix_ok hW k hk
  refine vmix_wf h1.1 (vpays_wf hW hj) ?_
  rw [vpays_far hW hj (by omega), h1.low hW (by omega)]
theorem vcst_zero {v : zV} (hW : zWF v) : vcst v 0 = vgrow v (v 7) := by
  have h7 := hW.tN
  funext i
  unfold vcst
  by_cases q : 202 ≤ i ∧ i < 268
  · rw [vmix_t q]; rfl
  · rw [vmix_s (by omega), vgrow_far h7 (by omega)]
    show vpays v (vord v 0).1 i = v i
    rw [vpays_far hW (Nat.le_refl _) (by omega)]
theorem vcst_end {v : zV} (hW : zWF v) : vcst v (vord v 0).1 = (vfix v (vord v 0).1).1 := by
  obtain ⟨h1, -⟩ := vfix_ok hW _ (Nat.le_refl _)
  funext i
  unfold vcst
  by_cases q : 202 ≤ i ∧ i < 268
  · rw [vmix_t q, h1.2 i (fun j hj => by omega)]
  · rw [vmix_s (by omega)]
theorem vadd_mix {v t s : zV} {k : Nat} : vadd v (vmix t s) k = vmix t (vadd v s k) := by
  funext i
  unfold vadd
  by_cases q : i = 268 + 23 * (vord v 0).2 k + 6
  · subst q; rw [vset_at, vmix_s (by omega), vmix_s (by omega), vset_at]
  · rw [vset_off q]
    by_cases q2 : 202 ≤ i ∧ i < 268
    · rw [vmix_t q2, vmix_t q2]
    · rw [vmix_s (by omega), vmix_s (by omega), vset_off q]
theorem vadd_cst_wf {v : zV} (hW : zWF v) {k j : Nat} (hk : k < (vord v 0).1) (hj : j ≤ (vord v 0).1) : zWF (vadd v (vmix (vpays v j) (vfix v k).1) k) ∧ (vord v 0).2 k < vadd v (vmix (vpays v j) (vfix v k).1) k 8 := by
  obtain ⟨h1, -⟩ := vfix_ok hW k (Nat.le_of_lt hk)
  obtain ⟨a1, a2⟩ := h1.add hW hk
  have hb := vbidder hW hk
  rw [vadd_mix]
  refine ⟨vmix_wf a1 (vpays_wf hW hj) ?_, ?_⟩
  · rw [vpays_far hW hj (by omega), a2 7 (by omega), h1.low hW (by omega)]
  · rw [vmix_s (by omega), a2 8 (by omega), h1.low hW (by omega)]; exact hb.1
theorem vcst_step {v : zV} (hW : zWF v) {k : Nat} (hk : k < (vord v 0).1) : vrk (vadd v (vmix (vpays v (k + 1)) (vfix v k).1) k) ((vord v 0).2 k) (vrn (vadd v (vmix (vpays v (k + 1)) (vfix v k).1) k) ((vord v 0).2 k)) = vcst v (k + 1) ∧ vrn (vadd v (vmix (vpays v (k + 1)) (vfix v k).1) k) ((vord v 0).2 k) = vrn (vadd v (vfix v k).1 k) ((vord v 0).2 k) := by
  obtain ⟨h1, -⟩ := vfix_ok hW k (Nat.le_of_lt hk)
  obtain ⟨a1, a2⟩ := h1.add hW hk
  obtain ⟨c1, c2⟩ := vadd_cst_wf hW hk (j := k + 1) hk
  have hb := vbidder hW hk
  have hnt : zNT (vadd v (vmix (vpays v (k + 1)) (vfix v k).1) k) (vadd v (vfix v k).1 k) := fun i hi => by rw [vadd_mix, vmix_s hi]
  obtain ⟨e1, e2⟩ := hnt.rn c1 a1 c2
  refine ⟨?_, e1⟩
  obtain ⟨r1, r2, r3⟩ := vrn_rk c1 c2
  funext i
  unfold vcst
  by_cases q : 202 ≤ i ∧ i < 268
  · rw [vmix_t q, r2 i (by omega), vadd_mix, vmix_t q]
  · rw [vmix_s (by omega), e2 i (by omega), vfix_succ]
