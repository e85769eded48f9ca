/-! WHAT THE CLASS WRITES -/
theorem zby_nI {b : Nat} (h : b < 256) : zby (nI b) = b := by
  unfold zby
  show (BitVec.ofNat 32 b).toNat % 256 = b
  rw [BitVec.toNat_ofNat]
  omega
theorem zand31N {x : Nat} (hx : x < 2 ^ 31) : nI x &&& nI 31 = nI (x % 32) := pk_andN (n := x) (by omega) (m := 31) 5 (by decide)
def zT : Type := Nat × (Nat → Nat)
def tps (s : Nat × (Nat → Nat)) (b : Nat) : Nat × (Nat → Nat) := (s.1 + 1, tpush s.2 s.1 b)
def zCh (s : Nat × (Nat → Nat)) : Prop := ∀ j, j < s.1 → s.2 j < 128
theorem zCh.ps {s : Nat × (Nat → Nat)} {b : Nat} (h : zCh s) (hb : b < 128) : zCh (tps s b) := fun j hj => by
  have hj : j < s.1 + 1 := hj
  show (if j = s.1 then b else s.2 j) < 128
  by_cases q : j = s.1
  · rw [if_pos q]; exact hb
  · rw [if_neg q]; exact h j (by omega)
def wName (v : zV) (b k : Nat) (s : Nat × (Nat → Nat)) : Nat × (Nat → Nat) := zFor k (fun i s => if v (b + i) = 0 then s else tps s (v (b + i))) s
def wNum (x k : Nat) (s : Nat × (Nat → Nat)) : Nat × (Nat → Nat) := zFor k (fun i s => if 1000000000 / 10 ^ i ≤ x ∨ 1000000000 / 10 ^ i = 1 then tps s (48 + x / (1000000000 / 10 ^ i) % 10) else s) s
def wBid (v : zV) (g : Nat) (s : Nat × (Nat → Nat)) : Nat × (Nat → Nat) := tps (wNum (vneed v 0 g) 10 (tps (wNum (voffer v 0 g) 10 (tps (wName v (268 + 23 * g + 17) 6 s) 58)) 47)) 10
def wBids (v : zV) (k : Nat) : Nat × (Nat → Nat) := zFor k (fun i s => wBid v ((vord v 0).2 i) s) (0, fun _ => 0)
/-- all that is written -/
def wAll (v : zV) : Nat × (Nat → Nat) := wBids v (vord v 0).1
theorem wNum_succ {x k : Nat} {s : Nat × (Nat → Nat)} : wNum x (k + 1) s = if 1000000000 / 10 ^ k ≤ x ∨ 1000000000 / 10 ^ k = 1 then tps (wNum x k s) (48 + x / (1000000000 / 10 ^ k) % 10) else wNum x k s := rfl
theorem wName_succ {v : zV} {b k : Nat} {s : Nat × (Nat → Nat)} : wName v b (k + 1) s = if v (b + k) = 0 then wName v b k s else tps (wName v b k s) (v (b + k)) := rfl
theorem wP {i : Nat} (h : i < 6) : 10000 ≤ 1000000000 / 10 ^ i := by
  rcases (show i = 0 ∨ i = 1 ∨ i = 2 ∨ i = 3 ∨ i = 4 ∨ i = 5 by omega) with rfl | rfl | rfl | rfl | rfl | rfl <;> decide
theorem wNum_lo {x : Nat} {s : Nat × (Nat → Nat)} (hx : x < 10000) : ∀ k, k ≤ 6 → wNum x k s = s := by
  intro k
  induction k with
  | zero => intro _; rfl
  | succ k ih =>
    intro hk
    have := wP (show k < 6 by omega)
    rw [wNum_succ, if_neg (by omega), ih (by omega)]
theorem wNum_le {x : Nat} {s : Nat × (Nat → Nat)} (hx : x < 10000) : ∀ k, (wNum x k s).1 ≤ s.1 + (k - 6) := by
  intro k
  induction k with
  | zero => exact Nat.le_refl _
  | succ k ih =>
    rcases Nat.lt_or_ge k 6 with q | q
    · rw [wNum_lo hx (k + 1) (by omega)]; omega
    · rw [wNum_succ]
      split
      · show (wNum x k s).1 + 1 ≤ _
        omega
      · omega
theorem wNum_ch {x : Nat} {s : Nat × (Nat → Nat)} (h : zCh s) : ∀ k, zCh (wNum x k s) := by
  intro k
  induction k with
  | zero => exact h
  | succ k ih =>
    rw [wNum_succ]
    split
    · exact ih.ps (by omega)
    · exact ih
theorem wName_le {v : zV} {b : Nat} {s : Nat × (Nat → Nat)} : ∀ k, (wName v b k s).1 ≤ s.1 + k := by
  intro k
  induction k with
  | zero => exact Nat.le_refl _
  | succ k ih =>
    rw [wName_succ]
    split
    · omega
    · show (wName v b k s).1 + 1 ≤ _
      omega
theorem wName_ch {v : zV} {b : Nat} {s : Nat × (Nat → Nat)} (hn : zNam v b) (h : zCh s) : ∀ k, k ≤ 6 → zCh (wName v b k s) := by
  intro k
  induction k with
  | zero => intro _; exact h
  | succ k ih =>
    intro hk
    rw [wName_succ]
    split
    · exact ih (by omega)
    · rename_i q
      refine (ih (by omega)).ps ?_
      obtain ⟨L, h1, h6, hL, h0⟩ := hn
      by_cases w : k < L
      · have := hL k w; omega
      · exact absurd (h0 k (by omega) (by omega)) q
theorem wBid_le {v : zV} {g : Nat} {s : Nat × (Nat → Nat)} (hW : zWF v) (hg : g < v 8) : (wBid v g s).1 ≤ s.1 + 17 := by
  have h1 := wName_le (v := v) (b := 268 + 23 * g + 17) (s := s) 6
  have h2 := wNum_le (x := voffer v 0 g) (s := tps (wName v (268 + 23 * g + 17) 6 s) 58) (by have := voffer_le v 0 g; omega) 10
  have h3 := wNum_le (x := vneed v 0 g) (s := tps (wNum (voffer v 0 g) 10 (tps (wName v (268 + 23 * g + 17) 6 s) 58)) 47) (by have := (vneed_le hW (d := 0) hg).1; omega) 10
  have e1 : (tps (wName v (268 + 23 * g + 17) 6 s) 58).1 = (wName v (268 + 23 * g + 17) 6 s).1 + 1 := rfl
  have e2 : (tps (wNum (voffer v 0 g) 10 (tps (wName v (268 + 23 * g + 17) 6 s) 58)) 47).1 = (wNum (voffer v 0 g) 10 (tps (wName v (268 + 23 * g + 17) 6 s) 58)).1 + 1 := rfl
  show (wNum (vneed v 0 g) 10 (tps (wNum (voffer v 0 g) 10 (tps (wName v (268 + 23 * g + 17) 6 s) 58)) 47)).1 + 1 ≤ _
  omega
theorem wBid_ch {v : zV} {g : Nat} {s : Nat × (Nat → Nat)} (hN : zNmS v) (hg : g < v 8) (h : zCh s) : zCh (wBid v g s) := (wNum_ch ((wNum_ch ((wName_ch (hN.2.2 g hg) h 6 (Nat.le_refl _)).ps (by decide)) 10).ps (by decide)) 10).ps (by decide)
theorem wBids_succ {v : zV} {k : Nat} : wBids v (k + 1) = wBid v ((vord v 0).2 k) (wBids v k) := rfl
theorem vord_g {v : zV} {k : Nat} (h : k < (vord v 0).1) : (vord v 0).2 k < v 8 := ((vord_ok v 0).2.1 k h).1
theorem wBids_ok {v : zV} (hW : zWF v) (hN : zNmS v) : ∀ k, k ≤ (vord v 0).1 → (wBids v k).1 ≤ 17 * k ∧ zCh (wBids v k) := by
  intro k
  induction k with
  | zero => intro _; exact ⟨Nat.le_refl _, fun j hj => absurd hj (Nat.not_lt_zero j)⟩
  | succ k ih =>
    intro hk
    obtain ⟨a1, a2⟩ := ih (by omega)
    have hg := vord_g (v := v) (k := k) (by omega)
    rw [wBids_succ]
    have := wBid_le (s := wBids v k) hW hg
    exact ⟨by omega, wBid_ch hN hg a2⟩
theorem wAll_ok {v : zV} (hW : zWF v) (hN : zNmS v) : (wAll v).1 ≤ 170 ∧ zCh (wAll v) := by
  obtain ⟨a1, a2⟩ := wBids_ok hW hN _ (Nat.le_refl _)
  have := vord_le hW 0
  exact ⟨by show (wBids v (vord v 0).1).1 ≤ 170; omega, a2⟩
/-! a packed name, letter by letter -/
def nmS (x S : Nat) (s : Nat × (Nat → Nat)) : Nat × (Nat → Nat) := if x / 2 ^ S % 32 = 0 then s else tps s (97 + x / 2 ^ S % 32 - 1)
def nmX (x : Nat) (s : Nat × (Nat → Nat)) : Nat × (Nat → Nat) := nmS x 0 (nmS x 5 (nmS x 10 (nmS x 15 (nmS x 20 (nmS x 25 s)))))
theorem nmS_0 {x S : Nat} {s : Nat × (Nat → Nat)} (h : x / 2 ^ S % 32 = 0) : nmS x S s = s := if_pos h
theorem nmS_c {x S c : Nat} {s : Nat × (Nat → Nat)} (hc : 97 ≤ c) (h : x / 2 ^ S % 32 = c - 96) : nmS x S s = tps s c := by
  unfold nmS
  rw [h, if_neg (by omega), show 97 + (c - 96) - 1 = c by omega]
theorem nmS_le {x S : Nat} {s : Nat × (Nat → Nat)} : (nmS x S s).1 ≤ s.1 + 1 := by
  unfold nmS
  split
  · omega
  · exact Nat.le_refl _
theorem wName_0 {v : zV} {b k : Nat} {s : Nat × (Nat → Nat)} (h : v (b + k) = 0) : wName v b (k + 1) s = wName v b k s := if_pos h
theorem wName_c {v : zV} {b k : Nat} {s : Nat × (Nat → Nat)} (h : 97 ≤ v (b + k)) : wName v b (k + 1) s = tps (wName v b k s) (v (b + k)) := if_neg (by omega)
theorem nmX_1 {v : zV} {b : Nat} {s : Nat × (Nat → Nat)} (hL : ∀ k, k < 1 → 97 ≤ v (b + k) ∧ v (b + k) ≤ 122) (h0 : ∀ k, 1 ≤ k → k < 6 → v (b + k) = 0) : nmX (vpkN v b 1) s = wName v b 6 s := by
  have c0 := hL 0 (by decide)
  have e0 : vpkN v b 0 = 0 := rfl
  have e1 : vpkN v b 1 = vpkN v b 0 * 32 + (v (b + 0) - 96) := rfl
  have hx : vpkN v b 1 = (v (b + 0) - 96) * 1 := by omega
  unfold nmX
  rw [nmS_0 (x := vpkN v b 1) (S := 25) (by rw [hx]; omega), nmS_0 (x := vpkN v b 1) (S := 20) (by rw [hx]; omega), nmS_0 (x := vpkN v b 1) (S := 15) (by rw [hx]; omega), nmS_0 (x := vpkN v b 1) (S := 10) (by rw [hx]; omega), nmS_0 (x := vpkN v b 1) (S := 5) (by rw [hx]; omega), nmS_c (x := vpkN v b 1) (S := 0) (c := v (b + 0)) c0.1 (by rw [hx]; omega)]
  rw [wName_0 (k := 5) (h0 5 (by decide) (by decide)), wName_0 (k := 4) (h0 4 (by decide) (by decide)), wName_0 (k := 3) (h0 3 (by decide) (by decide)), wName_0 (k := 2) (h0 2 (by decide) (by decide)), wName_0 (k := 1) (h0 1 (by decide) (by decide)), wName_c (k := 0) c0.1]
  rfl
theorem nmX_2 {v : zV} {b : Nat} {s : Nat × (Nat → Nat)} (hL : ∀ k, k < 2 → 97 ≤ v (b + k) ∧ v (b + k) ≤ 122) (h0 : ∀ k, 2 ≤ k → k < 6 → v (b + k) = 0) : nmX (vpkN v b 2) s = wName v b 6 s := by
  have c0 := hL 0 (by decide)
  have c1 := hL 1 (by decide)
  have e0 : vpkN v b 0 = 0 := rfl
  have e1 : vpkN v b 1 = vpkN v b 0 * 32 + (v (b + 0) - 96) := rfl
  have e2 : vpkN v b 2 = vpkN v b 1 * 32 + (v (b + 1) - 96) := rfl
  have hx : vpkN v b 2 = (v (b + 0) - 96) * 32 + (v (b + 1) - 96) * 1 := by omega
  unfold nmX
  rw [nmS_0 (x := vpkN v b 2) (S := 25) (by rw [hx]; omega), nmS_0 (x := vpkN v b 2) (S := 20) (by rw [hx]; omega), nmS_0 (x := vpkN v b 2) (S := 15) (by rw [hx]; omega), nmS_0 (x := vpkN v b 2) (S := 10) (by rw [hx]; omega), nmS_c (x := vpkN v b 2) (S := 5) (c := v (b + 0)) c0.1 (by rw [hx]; omega), nmS_c (x := vpkN v b 2) (S := 0) (c := v (b + 1)) c1.1 (by rw [hx]; omega)]
  rw [wName_0 (k := 5) (h0 5 (by decide) (by decide)), wName_0 (k := 4) (h0 4 (by decide) (by decide)), wName_0 (k := 3) (h0 3 (by decide) (by decide)), wName_0 (k := 2) (h0 2 (by decide) (by decide)), wName_c (k := 1) c1.1, wName_c (k := 0) c0.1]
  rfl
theorem nmX_3 {v : zV} {b : Nat} {s : Nat × (Nat → Nat)} (hL : ∀ k, k < 3 → 97 ≤ v (b + k) ∧ v (b + k) ≤ 122) (h0 : ∀ k, 3 ≤ k → k < 6 → v (b + k) = 0) : nmX (vpkN v b 3) s = wName v b 6 s := by
  have c0 := hL 0 (by decide)
  have c1 := hL 1 (by decide)
  have c2 := hL 2 (by decide)
  have e0 : vpkN v b 0 = 0 := rfl
  have e1 : vpkN v b 1 = vpkN v b 0 * 32 + (v (b + 0) - 96) := rfl
  have e2 : vpkN v b 2 = vpkN v b 1 * 32 + (v (b + 1) - 96) := rfl
  have e3 : vpkN v b 3 = vpkN v b 2 * 32 + (v (b + 2) - 96) := rfl
  have hx : vpkN v b 3 = (v (b + 0) - 96) * 1024 + (v (b + 1) - 96) * 32 + (v (b + 2) - 96) * 1 := by omega
  unfold nmX
  rw [nmS_0 (x := vpkN v b 3) (S := 25) (by rw [hx]; omega), nmS_0 (x := vpkN v b 3) (S := 20) (by rw [hx]; omega), nmS_0 (x := vpkN v b 3) (S := 15) (by rw [hx]; omega), nmS_c (x := vpkN v b 3) (S := 10) (c := v (b + 0)) c0.1 (by rw [hx]; omega), nmS_c (x := vpkN v b 3) (S := 5) (c := v (b + 1)) c1.1 (by rw [hx]; omega), nmS_c (x := vpkN v b 3) (S := 0) (c := v (b + 2)) c2.1 (by rw [hx]; omega)]
  rw [wName_0 (k := 5) (h0 5 (by decide) (by decide)), wName_0 (k := 4) (h0 4 (by decide) (by decide)), wName_0 (k := 3) (h0 3 (by decide) (by decide)), wName_c (k := 2) c2.1, wName_c (k := 1) c1.1, wName_c (k := 0) c0.1]
  rfl
theorem nmX_4 {v : zV} {b : Nat} {s : Nat × (Nat → Nat)} (hL : ∀ k, k < 4 → 97 ≤ v (b + k) ∧ v (b + k) ≤ 122) (h0 : ∀ k, 4 ≤ k → k < 6 → v (b + k) = 0) : nmX (vpkN v b 4) s = wName v b 6 s := by
  have c0 := hL 0 (by decide)
  have c1 := hL 1 (by decide)
  have c2 := hL 2 (by decide)
  have c3 := hL 3 (by decide)
  have e0 : vpkN v b 0 = 0 := rfl
  have e1 : vpkN v b 1 = vpkN v b 0 * 32 + (v (b + 0) - 96) := rfl
  have e2 : vpkN v b 2 = vpkN v b 1 * 32 + (v (b + 1) - 96) := rfl
  have e3 : vpkN v b 3 = vpkN v b 2 * 32 + (v (b + 2) - 96) := rfl
  have e4 : vpkN v b 4 = vpkN v b 3 * 32 + (v (b + 3) - 96) := rfl
  have hx : vpkN v b 4 = (v (b + 0) - 96) * 32768 + (v (b + 1) - 96) * 1024 + (v (b + 2) - 96) * 32 + (v (b + 3) - 96) * 1 := by omega
  unfold nmX
  rw [nmS_0 (x := vpkN v b 4) (S := 25) (by rw [hx]; omega), nmS_0 (x := vpkN v b 4) (S := 20) (by rw [hx]; omega), nmS_c (x := vpkN v b 4) (S := 15) (c := v (b + 0)) c0.1 (by rw [hx]; omega), nmS_c (x := vpkN v b 4) (S := 10) (c := v (b + 1)) c1.1 (by rw [hx]; omega), nmS_c (x := vpkN v b 4) (S := 5) (c := v (b + 2)) c2.1 (by rw [hx]; omega), nmS_c (x := vpkN v b 4) (S := 0) (c := v (b + 3)) c3.1 (by rw [hx]; omega)]
  rw [wName_0 (k := 5) (h0 5 (by decide) (by decide)), wName_0 (k := 4) (h0 4 (by decide) (by decide)), wName_c (k := 3) c3.1, wName_c (k := 2) c2.1, wName_c (k := 1) c1.1, wName_c (k := 0) c0.1]
  rfl
theorem nmX_5 {v : zV} {b : Nat} {s : Nat × (Nat → Nat)} (hL : ∀ k, k < 5 → 97 ≤ v (b + k) ∧ v (b + k) ≤ 122) (h0 : ∀ k, 5 ≤ k → k < 6 → v (b + k) = 0) : nmX (vpkN v b 5) s = wName v b 6 s := by
  have c0 := hL 0 (by decide)
  have c1 := hL 1 (by decide)
  have c2 := hL 2 (by decide)
  have c3 := hL 3 (by decide)
  have c4 := hL 4 (by decide)
  have e0 : vpkN v b 0 = 0 := rfl
  have e1 : vpkN v b 1 = vpkN v b 0 * 32 + (v (b + 0) - 96) := rfl
  have e2 : vpkN v b 2 = vpkN v b 1 * 32 + (v (b + 1) - 96) := rfl
  have e3 : vpkN v b 3 = vpkN v b 2 * 32 + (v (b + 2) - 96) := rfl
  have e4 : vpkN v b 4 = vpkN v b 3 * 32 + (v (b + 3) - 96) := rfl
  have e5 : vpkN v b 5 = vpkN v b 4 * 32 + (v (b + 4) - 96) := rfl
  have hx : vpkN v b 5 = (v (b + 0) - 96) * 1048576 + (v (b + 1) - 96) * 32768 + (v (b + 2) - 96) * 1024 + (v (b + 3) - 96) * 32 + (v (b + 4) - 96) * 1 := by omega
  unfold nmX
  rw [nmS_0 (x := vpkN v b 5) (S := 25) (by rw [hx]; omega), nmS_c (x := vpkN v b 5) (S := 20) (c := v (b + 0)) c0.1 (by rw [hx]; omega), nmS_c (x := vpkN v b 5) (S := 15) (c := v (b + 1)) c1.1 (by rw [hx]; omega), nmS_c (x := vpkN v b 5) (S := 10) (c := v (b + 2)) c2.1 (by rw [hx]; omega), nmS_c (x := vpkN v b 5) (S := 5) (c := v (b + 3)) c3.1 (by rw [hx]; omega), nmS_c (x := vpkN v b 5) (S := 0) (c := v (b + 4)) c4.1 (by rw [hx]; omega)]
  rw [wName_0 (k := 5) (h0 5 (by decide) (by decide)), wName_c (k := 4) c4.1, wName_c (k := 3) c3.1, wName_c (k := 2) c2.1, wName_c (k := 1) c1.1, wName_c (k := 0) c0.1]
  rfl
theorem nmX_6 {v : zV} {b : Nat} {s : Nat × (Nat → Nat)} (hL : ∀ k, k < 6 → 97 ≤ v (b + k) ∧ v (b + k) ≤ 122) (h0 : ∀ k, 6 ≤ k → k < 6 → v (b + k) = 0) : nmX (vpkN v b 6) s = wName v b 6 s := by
  have c0 := hL 0 (by decide)
  have c1 := hL 1 (by decide)
  have c2 := hL 2 (by decide)
  have c3 := hL 3 (by decide)
  have c4 := hL 4 (by decide)
  have c5 := hL 5 (by decide)
  have e0 : vpkN v b 0 = 0 := rfl
  have e1 : vpkN v b 1 = vpkN v b 0 * 32 + (v (b + 0) - 96) := rfl
  have e2 : vpkN v b 2 = vpkN v b 1 * 32 + (v (b + 1) - 96) := rfl
  have e3 : vpkN v b 3 = vpkN v b 2 * 32 + (v (b + 2) - 96) := rfl
  have e4 : vpkN v b 4 = vpkN v b 3 * 32 + (v (b + 3) - 96) := rfl
  have e5 : vpkN v b 5 = vpkN v b 4 * 32 + (v (b + 4) - 96) := rfl
  have e6 : vpkN v b 6 = vpkN v b 5 * 32 + (v (b + 5) - 96) := rfl
  have hx : vpkN v b 6 = (v (b + 0) - 96) * 33554432 + (v (b + 1) - 96) * 1048576 + (v (b + 2) - 96) * 32768 + (v (b + 3) - 96) * 1024 + (v (b + 4) - 96) * 32 + (v (b + 5) - 96) * 1 := by omega
  unfold nmX
  rw [nmS_c (x := vpkN v b 6) (S := 25) (c := v (b + 0)) c0.1 (by rw [hx]; omega), nmS_c (x := vpkN v b 6) (S := 20) (c := v (b + 1)) c1.1 (by rw [hx]; omega), nmS_c (x := vpkN v b 6) (S := 15) (c := v (b + 2)) c2.1 (by rw [hx]; omega), nmS_c (x := vpkN v b 6) (S := 10) (c := v (b + 3)) c3.1 (by rw [hx]; omega), nmS_c (x := vpkN v b 6) (S := 5) (c := v (b + 4)) c4.1 (by rw [hx]; omega), nmS_c (x := vpkN v b 6) (S := 0) (c := v (b + 5)) c5.1 (by rw [hx]; omega)]
  rw [wName_c (k := 5) c5.1, wName_c (k := 4) c4.1, wName_c (k := 3) c3.1, wName_c (k := 2) c2.1, wName_c (k := 1) c1.1, wName_c (k := 0) c0.1]
  rfl
theorem nmX_is {v : zV} {b : Nat} {s : Nat × (Nat → Nat)} (h : zNam v b) : nmX (vname v b) s = wName v b 6 s := by
  obtain ⟨L, h1, h6, hL, h0⟩ := h
  rw [vname_L h6 hL h0]
  rcases (show L = 1 ∨ L = 2 ∨ L = 3 ∨ L = 4 ∨ L = 5 ∨ L = 6 by omega) with rfl | rfl | rfl | rfl | rfl | rfl
  · exact nmX_1 hL h0
  · exact nmX_2 hL h0
  · exact nmX_3 hL h0
  · exact nmX_4 hL h0
  · exact nmX_5 hL h0
  · exact nmX_6 hL h0
/-! what find answers -/
def a_find (v : zV) (n : Nat) (B : Nat → Nat) (x : Int32) : zA := if zin x 3 then (0, if vnm B 0 n = 0 then -1 else zo (kfind v (xn x) B 0 n)) else (1, nI 0)
theorem kfind_0 {v : zV} {kd n : Nat} {B : Nat → Nat} (hN : zNmS v) (hk : kd ≤ 2) (h : vnm B 0 n = 0) : kfind v kd B 0 n = none := by
  unfold kfind
  refine zfo_none (fun r hr => ?_)
  have := (hN.at hk hr).nlt
  rw [h]
  exact decide_eq_false (by omega)
def zOf (k : Nat) (M M' : zM) : Prop := (∀ a, a ≠ k → a ≠ k + 1 → M'.1 a = M.1 a) ∧ M'.2 = M.2
theorem zOf.rf {k : Nat} {M : zM} : zOf k M M := ⟨fun _ _ _ => rfl, rfl⟩
theorem zOf.tr {k : Nat} {M M1 M2 : zM} (h : zOf k M M1) (h2 : zOf k M1 M2) : zOf k M M2 := ⟨fun a h3 h4 => (h2.1 a h3 h4).trans (h.1 a h3 h4), h2.2.trans h.2⟩
theorem zOf.rg {k r : Nat} {M M1 : zM} {v : zV} (h : zOf k M M1) (hk : 99 ≤ k) (hR : zRg M r v) : zRg M1 r v := hR.cg (fun a h1 h2 => by have := hR.i.le; exact h.1 a (by omega) (by omega))
theorem zOf.mb {k u : Nat} {M M1 : zM} {off : Nat → Nat} {s : zB} (h : zOf k M M1) (hk : k + 1 < u) (hM : zMb M u off s) : zMb M1 u off s := hM.cg (h.1 _ (by omega) (by omega)) (fun _ _ _ _ => by rw [h.1 _ (by omega) (by omega)])
theorem jX1_addS {k b : Nat} {s : Nat × (Nat → Nat)} {Q : Option Value → zM → Prop} {X : String → zM → Prop} {M : zM} (hB : zBy M k s.1 s.2) (hb : b < 256) (hn : s.1 < zLen (k + 1)) (h : ∀ M', zOf k M M' → zBy M' k (tps s b).1 (tps s b).2 → Q none M') : zJ yX1_add cX1_add 2 none rX1_add Q X rX1_add.cells rX1_add.slots 0 (zEnt 2 [.ref k, .int (nI b)]) [] M := jX1_add hB hn (fun M' h1 h2 h3 => h M' ⟨h2, h3⟩ (by rw [zby_nI hb] at h1; exact h1))
theorem z_anm {k : Nat} {s : Nat × (Nat → Nat)} {x S : Nat} {Q : Option Value → zM → Prop} {X : String → zM → Prop} {M : zM} (hx : x < 2 ^ 31) (hS : S ≤ 25) (hB : zBy M k s.1 s.2) (hn : s.1 < zLen (k + 1)) (h : ∀ M', zOf k M M' → zBy M' k (nmS x S s).1 (nmS x S s).2 → zJ yX1_addName cX1_addName 4 none rX1_addName Q X 0 0 28 [some (.ref k), some (.int (nI x)), some (.int (nI S)), none] [] M') : zJ yX1_addName cX1_addName 4 none rX1_addName Q X 0 0 7 [some (.ref k), some (.int (nI x)), some (.int (nI S)), none] [] M := by
  have hx2 : x / 2 ^ S < 2 ^ 31 := Nat.lt_of_le_of_lt (Nat.div_le_self _ _) hx
  refine zj_iload1 (n := 8) rfl dX1_addName_7 ?_
  refine zj_iload2 (n := 9) rfl dX1_addName_8 ?_
  refine zj_ishrN (n := 10) rfl dX1_addName_9 (by omega) (by omega) ?_
  refine zj_bipushN (v := 31) (n := 12) rfl dX1_addName_10 (by decide) ?_
  refine zj_iand (n := 13) rfl dX1_addName_12 ?_
  rw [zand31N (Nat.lt_of_le_of_lt (Nat.div_le_self _ _) hx)]
  refine zj_istore3 (n := 14) rfl dX1_addName_13 rfl (Nat.le_of_ble_eq_true rfl) ?_
  refine zj_iload3 (n := 15) rfl dX1_addName_14 ?_
  refine zj_ifN_le (n := 18) (tgt := 28) rfl dX1_addName_15 (by decide) (by omega) (fun c15 => ?_) (fun c15 => ?_)
  · refine zj_keep [true, true, true, false] ?_
    exact h M zOf.rf (by rw [nmS_0 (by omega)]; exact hB)
  · refine zj_aload0 (n := 19) rfl dX1_addName_18 ?_
    refine zj_bipushN (v := 97) (n := 21) rfl dX1_addName_19 (by decide) ?_
    refine zj_iload3 (n := 22) rfl dX1_addName_21 ?_
    refine zj_iaddN (n := 23) rfl dX1_addName_22 ?_
    refine zj_iconstN_1 (n := 24) rfl dX1_addName_23 ?_
    refine zj_isubN (n := 25) rfl dX1_addName_24 (by omega) ?_
    refine zj_callV1 (n := 28) (a' := 0) (b' := 0) rfl dX1_addName_25 zm_X1_25 (by decide) hB.lt (by rw [hB.ty]; rfl) (Nat.le_of_ble_eq_true rfl) (Nat.le_of_ble_eq_true rfl) (Nat.le_of_ble_eq_true rfl) (Nat.le_of_ble_eq_true rfl) (jX1_addS hB (by omega) hn ?_)
    intro M1 hF1 hB1
    refine zj_keep [true, true, true, false] ?_
    have e : nmS x S s = tps s (97 + x / 2 ^ S % 32 - 1) := if_neg (by omega)
    exact h M1 hF1 (by rw [e]; exact hB1)
theorem jX1_addName {k : Nat} {s : Nat × (Nat → Nat)} {x : Nat} {Q : Option Value → zM → Prop} {X : String → zM → Prop} {M : zM} (hx : x < 2 ^ 31) (hB : zBy M k s.1 s.2) (hn : s.1 + 6 ≤ zLen (k + 1)) (h : ∀ M', zOf k M M' → zBy M' k (nmX x s).1 (nmX x s).2 → Q none M') : zJ yX1_addName cX1_addName 4 none rX1_addName Q X rX1_addName.cells rX1_addName.slots 0 (zEnt 4 [.ref k, .int (nI x)]) [] M := by
  show zJ yX1_addName cX1_addName 4 none rX1_addName Q X 0 0 0 [some (.ref k), some (.int (nI x)), none, none] [] M
  refine zj_bipushN (v := 25) (n := 2) rfl dX1_addName_0 (by decide) ?_
  refine zj_istore2 (n := 3) rfl dX1_addName_2 rfl (Nat.le_of_ble_eq_true rfl) ?_
  refine zj_iload2 (n := 4) rfl dX1_addName_3 ?_
  refine zj_ifN_lt (n := 7) (tgt := 34) rfl dX1_addName_4 (by decide) (by omega) ?_
  refine z_anm (S := 25) hx (by decide) hB (by omega) ?_
  intro M1 hF1 hB1
  have hl1 := nmS_le (x := x) (S := 25) (s := s)
  refine zj_iinc2 (v := nI 20) (n := 31) rfl dX1_addName_28 rfl (by decide) (Nat.le_of_ble_eq_true rfl) ?_
  refine zj_goto (tgt := 3) dX1_addName_31 (by decide) ?_
  refine zj_iload2 (n := 4) rfl dX1_addName_3 ?_
  refine zj_ifN_lt (n := 7) (tgt := 34) rfl dX1_addName_4 (by decide) (by omega) ?_
  refine z_anm (S := 20) hx (by decide) hB1 (by omega) ?_
  intro M2 hF2 hB2
  have hl2 := nmS_le (x := x) (S := 20) (s := nmS x 25 (s))
  refine zj_iinc2 (v := nI 15) (n := 31) rfl dX1_addName_28 rfl (by decide) (Nat.le_of_ble_eq_true rfl) ?_
  refine zj_goto (tgt := 3) dX1_addName_31 (by decide) ?_
  refine zj_iload2 (n := 4) rfl dX1_addName_3 ?_
  refine zj_ifN_lt (n := 7) (tgt := 34) rfl dX1_addName_4 (by decide) (by omega) ?_
  refine z_anm (S := 15) hx (by decide) hB2 (by omega) ?_
  intro M3 hF3 hB3
  have hl3 := nmS_le (x := x) (S := 15) (s := nmS x 20 (nmS x 25 (s)))
  refine zj_iinc2 (v := nI 10) (n := 31) rfl dX1_addName_28 rfl (by decide) (Nat.le_of_ble_eq_true rfl) ?_
  refine zj_goto (tgt := 3) dX1_addName_31 (by decide) ?_
  refine zj_iload2 (n := 4) rfl dX1_addName_3 ?_
  refine zj_ifN_lt (n := 7) (tgt := 34) rfl dX1_addName_4 (by decide) (by omega) ?_
  refine z_anm (S := 10) hx (by decide) hB3 (by omega) ?_
  intro M4 hF4 hB4
  have hl4 := nmS_le (x := x) (S := 10) (s := nmS x 15 (nmS x 20 (nmS x 25 (s))))
  refine zj_iinc2 (v := nI 5) (n := 31) rfl dX1_addName_28 rfl (by decide) (Nat.le_of_ble_eq_true rfl) ?_
  refine zj_goto (tgt := 3) dX1_addName_31 (by decide) ?_
  refine zj_iload2 (n := 4) rfl dX1_addName_3 ?_
  refine zj_ifN_lt (n := 7) (tgt := 34) rfl dX1_addName_4 (by decide) (by omega) ?_
  refine z_anm (S := 5) hx (by decide) hB4 (by omega) ?_
  intro M5 hF5 hB5
  have hl5 := nmS_le (x := x) (S := 5) (s := nmS x 10 (nmS x 15 (nmS x 20 (nmS x 25 (s)))))
  refine zj_iinc2 (v := nI 0) (n := 31) rfl dX1_addName_28 rfl (by decide) (Nat.le_of_ble_eq_true rfl) ?_
  refine zj_goto (tgt := 3) dX1_addName_31 (by decide) ?_
  refine zj_iload2 (n := 4) rfl dX1_addName_3 ?_
  refine zj_ifN_lt (n := 7) (tgt := 34) rfl dX1_addName_4 (by decide) (by omega) ?_
  refine z_anm (S := 0) hx (by decide) hB5 (by omega) ?_
  intro M6 hF6 hB6
  have hl6 := nmS_le (x := x) (S := 0) (s := nmS x 5 (nmS x 10 (nmS x 15 (nmS x 20 (nmS x 25 (s))))))
  refine zj_iinc2 (v := (-5)) (n := 31) rfl dX1_addName_28 rfl (by decide) (Nat.le_of_ble_eq_true rfl) ?_
  refine zj_goto (tgt := 3) dX1_addName_31 (by decide) ?_
  refine zj_iload2 (n := 4) rfl dX1_addName_3 ?_
  refine zj_if_lt (n := 7) (tgt := 34) rfl dX1_addName_4 (by decide) (fun _ => ?_) (fun h => absurd h (by decide))
  exact zj_return dX1_addName_34 rfl (h M6 (hF1.tr (hF2.tr (hF3.tr (hF4.tr (hF5.tr hF6))))) hB6)
theorem zP10_pos {i : Nat} (h : i < 10) : 0 < 1000000000 / 10 ^ i ∧ 1000000000 / 10 ^ i < 2 ^ 31 ∧ (1000000000 / 10 ^ i = 1 → i = 9) := by
  rcases (show i = 0 ∨ i = 1 ∨ i = 2 ∨ i = 3 ∨ i = 4 ∨ i = 5 ∨ i = 6 ∨ i = 7 ∨ i = 8 ∨ i = 9 by omega) with rfl | rfl | rfl | rfl | rfl | rfl | rfl | rfl | rfl | rfl <;> decide
theorem zP10_s {i : Nat} : 1000000000 / 10 ^ i / 10 = 1000000000 / 10 ^ (i + 1) := by rw [Nat.div_div_eq_div_mul, Nat.pow_succ]
theorem zP10_end : 1000000000 / 10 ^ 10 = 0 := by decide
theorem wNum_room {x i : Nat} {s : Nat × (Nat → Nat)} (hx : x < 10000) (hi : i < 10) : (wNum x i s).1 < s.1 + 4 := by
  have := wNum_le (s := s) hx i
  omega
theorem jX1_addNumber {k : Nat} {s : Nat × (Nat → Nat)} {x : Nat} {Q : Option Value → zM → Prop} {X : String → zM → Prop} {M : zM} (hx : x < 10000) (hB : zBy M k s.1 s.2) (hn : s.1 + 4 ≤ zLen (k + 1)) (h : ∀ M', zOf k M M' → zBy M' k (wNum x 10 s).1 (wNum x 10 s).2 → Q none M') : zJ yX1_addNumber cX1_addNumber 3 none rX1_addNumber Q X rX1_addNumber.cells rX1_addNumber.slots 0 (zEnt 3 [.ref k, .int (nI x)]) [] M := by
  show zJ yX1_addNumber cX1_addNumber 3 none rX1_addNumber Q X 0 0 0 [some (.ref k), some (.int (nI x)), none] [] M
  refine zj_ldcN (v := 1000000000) (n := 2) rfl dX1_addNumber_0 zc_X1_29 ?_
  refine zj_istore2 (n := 3) rfl dX1_addNumber_2 rfl (Nat.le_of_ble_eq_true rfl) ?_
  refine zFor_rule (P := fun i (_ : Unit) => ∀ M1, zOf k M M1 → zBy M1 k (wNum x i s).1 (wNum x i s).2 → zJ yX1_addNumber cX1_addNumber 3 none rX1_addNumber Q X 0 0 3 [some (.ref k), some (.int (nI x)), some (.int (nI (1000000000 / 10 ^ i)))] [] M1) (n := 10) (f := fun _ s => s) (s0 := ()) ?_ ?_ M zOf.rf hB
  · intro i _ hi hk M1 hF1 hB1
    obtain ⟨hp1, hp2, hp3⟩ := zP10_pos hi
    have hq := Nat.div_le_self x (1000000000 / 10 ^ i)
    refine zj_iload2 (n := 4) rfl dX1_addNumber_3 ?_
    refine zj_ifN_le (n := 7) (tgt := 38) rfl dX1_addNumber_4 (by decide) (by omega) (fun c4 => by omega) (fun c4 => ?_)
    refine zj_iload1 (n := 8) rfl dX1_addNumber_7 ?_
    refine zj_iload2 (n := 9) rfl dX1_addNumber_8 ?_
    refine zj_icmpN_ge (n := 12) (tgt := 17) rfl dX1_addNumber_9 (by decide) (by omega) (by omega) (fun c9 => ?_) (fun c9 => ?_)
    · refine zj_aload0 (n := 18) rfl dX1_addNumber_17 ?_
      refine zj_bipushN (v := 48) (n := 20) rfl dX1_addNumber_18 (by decide) ?_
      refine zj_iload1 (n := 21) rfl dX1_addNumber_20 ?_
      refine zj_iload2 (n := 22) rfl dX1_addNumber_21 ?_
      refine zj_idivN (n := 23) rfl dX1_addNumber_22 (by omega) (by omega) (by omega) ?_
      refine zj_bipushN (v := 10) (n := 25) rfl dX1_addNumber_23 (by decide) ?_
      refine zj_iremN (n := 26) rfl dX1_addNumber_25 (by omega) (by omega) (by omega) ?_
      refine zj_iaddN (n := 27) rfl dX1_addNumber_26 ?_
      refine zj_callV1 (n := 30) (a' := 0) (b' := 0) rfl dX1_addNumber_27 zm_X1_25 (by decide) hB.lt (by rw [hB.ty]; rfl) (Nat.le_of_ble_eq_true rfl) (Nat.le_of_ble_eq_true rfl) (Nat.le_of_ble_eq_true rfl) (Nat.le_of_ble_eq_true rfl) (jX1_addS hB1 (by omega) (by have := wNum_room (s := s) hx hi; omega) ?_)
      intro M2 hF2 hB2
      refine zj_gen (P := fun M9 => zOf k M M9 ∧ zBy M9 k (wNum x (i + 1) s).1 (wNum x (i + 1) s).2) ⟨hF1.tr hF2, by rw [wNum_succ, if_pos (by omega)]; exact hB2⟩ ?_
      intro M9 h9
      obtain ⟨hF9, hB9⟩ := h9
      refine zj_iload2 (n := 31) rfl dX1_addNumber_30 ?_
      refine zj_bipushN (v := 10) (n := 33) rfl dX1_addNumber_31 (by decide) ?_
      refine zj_idivN (n := 34) rfl dX1_addNumber_33 (by omega) (by omega) (by omega) ?_
      refine zj_istore2 (n := 35) rfl dX1_addNumber_34 rfl (Nat.le_of_ble_eq_true rfl) ?_
      refine zj_goto (tgt := 3) dX1_addNumber_35 (by decide) ?_
      rw [zP10_s]
      exact hk M9 hF9 hB9
    · refine zj_iload2 (n := 13) rfl dX1_addNumber_12 ?_
      refine zj_iconstN_1 (n := 14) rfl dX1_addNumber_13 ?_
      refine zj_icmpN_ne (n := 17) (tgt := 30) rfl dX1_addNumber_14 (by decide) (by omega) (by omega) (fun c14 => ?_) (fun c14 => ?_)
      · refine zj_gen (P := fun M9 => zOf k M M9 ∧ zBy M9 k (wNum x (i + 1) s).1 (wNum x (i + 1) s).2) ⟨hF1, by rw [wNum_succ, if_neg (by omega)]; exact hB1⟩ ?_
        intro M9 h9
        obtain ⟨hF9, hB9⟩ := h9
        refine zj_iload2 (n := 31) rfl dX1_addNumber_30 ?_
        refine zj_bipushN (v := 10) (n := 33) rfl dX1_addNumber_31 (by decide) ?_
        refine zj_idivN (n := 34) rfl dX1_addNumber_33 (by omega) (by omega) (by omega) ?_
        refine zj_istore2 (n := 35) rfl dX1_addNumber_34 rfl (Nat.le_of_ble_eq_true rfl) ?_
        refine zj_goto (tgt := 3) dX1_addNumber_35 (by decide) ?_
        rw [zP10_s]
        exact hk M9 hF9 hB9
      · refine zj_aload0 (n := 18) rfl dX1_addNumber_17 ?_
        refine zj_bipushN (v := 48) (n := 20) rfl dX1_addNumber_18 (by decide) ?_
        refine zj_iload1 (n := 21) rfl dX1_addNumber_20 ?_
        refine zj_iload2 (n := 22) rfl dX1_addNumber_21 ?_
        refine zj_idivN (n := 23) rfl dX1_addNumber_22 (by omega) (by omega) (by omega) ?_
        refine zj_bipushN (v := 10) (n := 25) rfl dX1_addNumber_23 (by decide) ?_
        refine zj_iremN (n := 26) rfl dX1_addNumber_25 (by omega) (by omega) (by omega) ?_
        refine zj_iaddN (n := 27) rfl dX1_addNumber_26 ?_
        refine zj_callV1 (n := 30) (a' := 0) (b' := 0) rfl dX1_addNumber_27 zm_X1_25 (by decide) hB.lt (by rw [hB.ty]; rfl) (Nat.le_of_ble_eq_true rfl) (Nat.le_of_ble_eq_true rfl) (Nat.le_of_ble_eq_true rfl) (Nat.le_of_ble_eq_true rfl) (jX1_addS hB1 (by omega) (by have := wNum_room (s := s) hx hi; omega) ?_)
        intro M2 hF2 hB2
        refine zj_gen (P := fun M9 => zOf k M M9 ∧ zBy M9 k (wNum x (i + 1) s).1 (wNum x (i + 1) s).2) ⟨hF1.tr hF2, by rw [wNum_succ, if_pos (by omega)]; exact hB2⟩ ?_
        intro M9 h9
        obtain ⟨hF9, hB9⟩ := h9
        refine zj_iload2 (n := 31) rfl dX1_addNumber_30 ?_
        refine zj_bipushN (v := 10) (n := 33) rfl dX1_addNumber_31 (by decide) ?_
        refine zj_idivN (n := 34) rfl dX1_addNumber_33 (by omega) (by omega) (by omega) ?_
        refine zj_istore2 (n := 35) rfl dX1_addNumber_34 rfl (Nat.le_of_ble_eq_true rfl) ?_
        refine zj_goto (tgt := 3) dX1_addNumber_35 (by decide) ?_
        rw [zP10_s]
        exact hk M9 hF9 hB9
  · intro M1 hF1 hB1
    refine zj_iload2 (n := 4) rfl dX1_addNumber_3 ?_
    refine zj_ifN_le (n := 7) (tgt := 38) rfl dX1_addNumber_4 (by decide) (by omega) (fun c4 => ?_) (fun c4 => by omega)
    exact zj_return dX1_addNumber_38 rfl (h M1 hF1 hB1)
