/-! THE CLASS'S RING AS IT IS READ -/
theorem zNam.nlt {v : zV} {b : Nat} (h : zNam v b) : vname v b < 2 ^ 30 ∧ 0 < vname v b := by
  obtain ⟨L, h1, h6, hL, h0⟩ := h
  rw [vname_L h6 hL h0]
  have h2 : vpkN v b L < 32 ^ L := vpkN_lt (fun i hi => zLetter_iff.mpr (hL i hi))
  have h3 : (32 : Nat) ^ L ≤ 32 ^ 6 := Nat.pow_le_pow_right (by decide) h6
  have h4 := vpkN_pos (B := v) (f := b) (k := L) (fun i hi => zLetter_iff.mpr (hL i hi)) h1
  omega
theorem vcnt_zero {v : zV} {m : Nat} : ∀ k, (∀ g s, g < k → s < vsh v g → hol v g s ≠ m) → vcnt v k m = 0 := by
  intro k
  induction k with
  | zero => intro _; rfl
  | succ k ih =>
    intro h
    rw [vcnt_succ, ih (fun g s hg hs => h g s (by omega) hs)]
    have : ∀ j, j ≤ vsh v k → zCnt j (fun s => hol v k s == m) = 0 := by
      intro j
      induction j with
      | zero => intro _; rfl
      | succ j ihj =>
        intro hj
        rw [zCnt_succ, ihj (by omega), if_neg (by have := h k j (by omega) (by omega); simpa using this)]
    rw [this _ (Nat.le_refl _)]
theorem zPs.cg {M M1 : zM} {n : Nat} {B : Nat → Nat} {s : zS} (h : zPs M n B s) (e : M1.1 104 = M.1 104) (e1 : M1.1 100 = M.1 100) (e2 : M1.1 101 = M.1 101) : zPs M1 n B s := by
  obtain ⟨hB, h2, h3, h4, e9, h6, hT, h8⟩ := h
  exact ⟨hB.cg e1 e2, by rw [e]; exact h2, h3, fun q => by rw [e]; exact h4 q, e9, h6, hT.cg (fun j _ => by rw [e]), h8⟩
def zC9 (M M' : zM) : Prop := (∀ a, ¬ (9 ≤ a ∧ a ≤ 17) → a ≠ 104 → M'.1 a = M.1 a) ∧ M'.2 = M.2
theorem zC9.rf {M : zM} : zC9 M M := ⟨fun _ _ _ => rfl, rfl⟩
theorem zC9.tr {M M1 M2 : zM} (h : zC9 M M1) (h2 : zC9 M1 M2) : zC9 M M2 := ⟨fun a h3 h4 => (h2.1 a h3 h4).trans (h.1 a h3 h4), h2.2.trans h.2⟩
theorem zC9.of {M M1 : zM} (h : zKf zP5 M M1) : zC9 M M1 := ⟨fun a _ h2 => h.1 a h2, h.2.1⟩
/-- tables formed, nothing past -/
def zRz (M : zM) : Prop := (∃ a, zTN M 10 8 16 a) ∧ (∃ b, zTN M 12 6 6 b) ∧ (∃ c, zTN M 14 21 10 c) ∧ zTN M 16 5 40 0 ∧ M.1 9 8 = nI 0 ∧ M.1 9 9 = nI 0
theorem zRz.cg {M M' : zM} (h : zRz M) (e : ∀ a, 9 ≤ a → a ≤ 17 → M'.1 a = M.1 a) : zRz M' := by
  obtain ⟨⟨a, h1⟩, ⟨b, h2⟩, ⟨c, h3⟩, h4, h5, h6⟩ := h
  exact ⟨⟨a, h1.cg (e _ (by decide) (by decide))⟩, ⟨b, h2.cg (e _ (by decide) (by decide))⟩, ⟨c, h3.cg (e _ (by decide) (by decide))⟩, h4.cg (e _ (by decide) (by decide)), by rw [e _ (by decide) (by decide)]; exact h5, by rw [e _ (by decide) (by decide)]; exact h6⟩
theorem zRg.rz {M : zM} {v : zV} (h : zRg M 9 v) (hp : zPv v) : zRz M := by
  obtain ⟨-, -, -, -, -, z4, z5, z9⟩ := hp
  refine ⟨⟨_, h.n.1⟩, ⟨_, h.t.1⟩, ⟨_, h.g.1⟩, by have := h.p.1; rw [z9] at this; exact this, ?_, ?_⟩
  · have := h.s 4 (by decide); rw [z4] at this; exact this
  · have := h.s 5 (by decide); rw [z5] at this; exact this
theorem zRg.addN {M M' : zM} {v v' : zV} (h : zRg M 9 v) (hW : zWF v) (h16 : v 6 < 16) (hF : ∀ a, 9 ≤ a → a ≤ 17 → a ≠ 10 → a ≠ 11 → M'.1 a = M.1 a) (hT : zTN M' 10 8 16 (v 6 + 1)) (ho : ∀ j, j < v 6 * 8 → M'.1 11 j = M.1 11 j)
    (hr : ∀ c, c < 4 → M'.1 11 (v 6 * 8 + c) = nI (v' (10 + 12 * v 6 + c))) (r4 : M'.1 11 (v 6 * 8 + 4) = nI 0) (r5 : M'.1 11 (v 6 * 8 + 5) = nI (v' (10 + 12 * v 6 + 4))) (r6 : M'.1 11 (v 6 * 8 + 6) = nI (v' (10 + 12 * v 6 + 5))) (r7 : M'.1 11 (v 6 * 8 + 7) = nI (vname v' (10 + 12 * v 6 + 6)))
    (e6 : v' 6 = v 6 + 1) (e : ∀ j, j ≠ 6 → (j < 10 + 12 * v 6 ∨ 10 + 12 * v 6 + 12 ≤ j) → v' j = v j) : zRg M' 9 v' := by
  have e7 : v' 7 = v 7 := e 7 (by decide) (by omega)
  have e8 : v' 8 = v 8 := e 8 (by decide) (by omega)
  have e9 : v' 9 = v 9 := e 9 (by decide) (by omega)
  have hsh : ∀ g, g < v 8 → vsh v g ≤ 10 := fun g hg => (hW.sh hg).2
  have eg : ∀ i, 268 ≤ i → i < 498 → v' i = v i := fun i h1 h2 => e i (by omega) (by omega)
  refine ⟨h.1, ⟨by rw [e6]; exact hT, fun m hm => ?_⟩, ?_, ?_, ?_, ?_⟩
  · rw [e6] at hm
    rw [e8]
    have ec : vcnt v' (v 8) m = vcnt v (v 8) m := vcnt_vg hW.gN hsh eg
    rw [ec]
    by_cases w : m < v 6
    · obtain ⟨f0, f1, f2, f3, f4, f5, f6, f7⟩ := h.n.2 m w
      have en : vname v' (10 + 12 * m + 6) = vname v (10 + 12 * m + 6) := vname_eq (fun i hi => e _ (by omega) (by omega))
      show M'.1 11 (m * 8 + 0) = _ ∧ M'.1 11 (m * 8 + 1) = _ ∧ M'.1 11 (m * 8 + 2) = _ ∧ M'.1 11 (m * 8 + 3) = _ ∧ M'.1 11 (m * 8 + 4) = _ ∧ M'.1 11 (m * 8 + 5) = _ ∧ M'.1 11 (m * 8 + 6) = _ ∧ M'.1 11 (m * 8 + 7) = _
      rw [ho _ (by omega), ho _ (by omega), ho _ (by omega), ho _ (by omega), ho _ (by omega), ho _ (by omega), ho _ (by omega), ho _ (by omega), en, e (10 + 12 * m + 0) (by omega) (by omega), e (10 + 12 * m + 1) (by omega) (by omega), e (10 + 12 * m + 2) (by omega) (by omega), e (10 + 12 * m + 3) (by omega) (by omega), e (10 + 12 * m + 4) (by omega) (by omega), e (10 + 12 * m + 5) (by omega) (by omega)]
      exact ⟨f0, f1, f2, f3, f4, f5, f6, f7⟩
    · have : m = v 6 := by omega
      subst this
      rw [vcnt_zero (v 8) (fun g s hg hs q => by have := hW.holds hg hs; omega)]
      exact ⟨hr 0 (by decide), hr 1 (by decide), hr 2 (by decide), hr 3 (by decide), r4, r5, r6, r7⟩
  · exact (h.t.cg (hF 12 (by decide) (by decide) (by decide) (by decide)) (hF 13 (by decide) (by decide) (by decide) (by decide))).vg e7 (fun i h1 h2 => e i (by omega) (by omega))
  · rw [e8]
    exact (h.g.cg (hF 14 (by decide) (by decide) (by decide) (by decide)) (hF 15 (by decide) (by decide) (by decide) (by decide))).vg eg (fun g hg => ⟨(vcost_vg (fun c hc => e _ (by omega) (by omega))).2, hsh g hg⟩)
  · exact (h.p.cg (hF 16 (by decide) (by decide) (by decide) (by decide)) (hF 17 (by decide) (by decide) (by decide) (by decide))).vg e9 (fun i h1 h2 => e i (by omega) (by omega))
  · exact (h.s.cg (hF 9 (by decide) (by decide) (by decide) (by decide))).vg (fun j hj => e j (by omega) (by omega))
theorem zRg.addT {M M' : zM} {v v' : zV} (h : zRg M 9 v) (hW : zWF v) (h16 : v 7 < 6) (hF : ∀ a, 9 ≤ a → a ≤ 17 → a ≠ 12 → a ≠ 13 → M'.1 a = M.1 a) (hT : zTN M' 12 6 6 (v 7 + 1)) (ho : ∀ j, j < v 7 * 6 → M'.1 13 j = M.1 13 j)
    (hr : ∀ c, c < 5 → M'.1 13 (v 7 * 6 + c) = nI (v' (202 + 11 * v 7 + c))) (r5 : M'.1 13 (v 7 * 6 + 5) = nI (vname v' (202 + 11 * v 7 + 5)))
    (e7 : v' 7 = v 7 + 1) (e : ∀ j, j ≠ 7 → (j < 202 + 11 * v 7 ∨ 202 + 11 * v 7 + 11 ≤ j) → v' j = v j) : zRg M' 9 v' := by
  have h6 := hW.nN
  have e6 : v' 6 = v 6 := e 6 (by decide) (by omega)
  have e8 : v' 8 = v 8 := e 8 (by decide) (by omega)
  have e9 : v' 9 = v 9 := e 9 (by decide) (by omega)
  have hsh : ∀ g, g < v 8 → vsh v g ≤ 10 := fun g hg => (hW.sh hg).2
  have eg : ∀ i, 268 ≤ i → i < 498 → v' i = v i := fun i h1 h2 => e i (by omega) (by omega)
  refine ⟨h.1, ?_, ⟨by rw [e7]; exact hT, fun t ht => ?_⟩, ?_, ?_, ?_⟩
  · refine (h.n.cg (hF 10 (by decide) (by decide) (by decide) (by decide)) (hF 11 (by decide) (by decide) (by decide) (by decide))).vg (fun i h1 h2 h3 h4 h5 => e i (by omega) (by omega)) (fun n _ => ?_)
    rw [e8]
    exact vcnt_vg hW.gN hsh eg
  · rw [e7] at ht
    by_cases w : t < v 7
    · have en : vname v' (202 + 11 * t + 5) = vname v (202 + 11 * t + 5) := vname_eq (fun i hi => e _ (by omega) (by omega))
      refine ⟨fun j hj => ?_, ?_⟩
      · show M'.1 13 (t * 6 + j) = _
        rw [ho _ (by omega), e _ (by omega) (by omega)]
        exact h.t.c w hj
      · show M'.1 13 (t * 6 + 5) = _
        rw [ho _ (by omega), en]
        exact h.t.nm w
    · have : t = v 7 := by omega
      subst this
      exact ⟨fun j hj => hr j hj, r5⟩
  · rw [e8]
    exact (h.g.cg (hF 14 (by decide) (by decide) (by decide) (by decide)) (hF 15 (by decide) (by decide) (by decide) (by decide))).vg eg (fun g hg => ⟨(vcost_vg (fun c hc => e _ (by omega) (by omega))).2, hsh g hg⟩)
  · exact (h.p.cg (hF 16 (by decide) (by decide) (by decide) (by decide)) (hF 17 (by decide) (by decide) (by decide) (by decide))).vg e9 (fun i h1 h2 => e i (by omega) (by omega))
  · exact (h.s.cg (hF 9 (by decide) (by decide) (by decide) (by decide))).vg (fun j hj => e j (by omega) (by omega))
/-! the class's order of errors is the model's -/
theorem sDup_next {B : Nat → Nat} {n : Nat} {s x : zS} {d : Bool} (h : x.1 = 0 → x.2.2 = s.2.2) : sDup (tS B n s.2.2) d (sNext B n x) = sNext B n (sErr 3 B n d x) := by
  by_cases q : x.1 = 0
  · cases d
    · rfl
    · show sRef 3 (tS B n s.2.2) (sNext B n x) = sNext B n (sRef 3 (tS B n x.2.2) x)
      rw [sNext_e q, sRef_e q, sRef_e (show ((0 : Nat), (0 : Nat), tE B n x.2.2).1 = 0 from rfl), h q, sNext_no (by simp)]
  · rw [sNext_no q, sErr_no q, sDup_no q, sNext_no q]
theorem sTake_at {B : Nat → Nat} {n i : Nat} {s : zS} {f : Bool} (h : s.1 = 0 → sAt B n s.2.2 i = true) : sTake B n i (sErr 4 B n f s) = sNext B n (sErr 4 B n f s) := by
  unfold sTake
  by_cases q : (sErr 4 B n f s).1 = 0
  · have e := sErr_id (by decide) q
    rw [e] at q ⊢
    rw [sErr_eq (by rw [h q]; rfl)]
  · rw [sErr_no q]
theorem sBeg_is {B : Nat → Nat} {n i : Nat} {s : zS} {f d : Bool} (h : s.1 = 0 → sAt B n s.2.2 i = true) : sBeg B n i f d s = sNext B n (sErr 3 B n d (sErr 1 B n (sBadN B n (sNext B n (sErr 4 B n f s)).2.2) (sNext B n (sErr 4 B n f s)))) := by
  unfold sBeg
  rw [sTake_at h]
  exact sDup_next (fun q => by rw [sErr_id (by decide) q])
/-- two ways to say that the name is taken -/
theorem sErr_cong {B : Nat → Nat} {n k : Nat} {d d' : Bool} {x : zS} (h : x.1 = 0 → d = d') : sErr k B n d x = sErr k B n d' x := by
  by_cases q : x.1 = 0
  · rw [h q]
  · rw [sErr_no q, sErr_no q]
theorem jX6_clearThings {r a b c : Nat} {Q : Option Value → zM → Prop} {X : String → zM → Prop} {M : zM} (hi : zRi r) (h1 : zTN M (r + 1) 8 16 a) (h3 : zTN M (r + 3) 6 6 b) (h5 : zTN M (r + 5) 21 10 c) (h : ∀ M', (∀ i, i ≠ r + 1 → i ≠ r + 3 → i ≠ r + 5 → M'.1 i = M.1 i) → M'.2 = M.2 → zTN M' (r + 1) 8 16 0 → zTN M' (r + 3) 6 6 0 → zTN M' (r + 5) 21 10 0 → Q none M') : zJ yX6_clearThings cX6_clearThings 1 none rX6_clearThings Q X rX6_clearThings.cells rX6_clearThings.slots 0 (zEnt 1 [.ref r]) [] M := by
  show zJ yX6_clearThings cX6_clearThings 1 none rX6_clearThings Q X 0 0 0 [some (.ref r)] [] M
  refine zj_aload0 (n := 1) rfl dX6_clearThings_0 ?_
  refine zj_getr (n := 4) (q := r + 1) rfl dX6_clearThings_1 zf_X6_14 rfl hi.lt hi.ty rfl ?_
  refine zj_callV0 (n := 7) (a' := 0) (b' := 0) rfl dX6_clearThings_4 zm_X6_33 (by decide) (hi.ltc (c := 1) (by decide)) (by rw [(hi.ty1 (c := 1) (by decide))]; rfl) (Nat.le_of_ble_eq_true rfl) (Nat.le_of_ble_eq_true rfl) (Nat.le_of_ble_eq_true rfl) (Nat.le_of_ble_eq_true rfl) (jX7_clear h1.1 ?_)
  refine zj_aload0 (n := 8) rfl dX6_clearThings_7 ?_
  refine zj_getr (n := 11) (q := r + 3) rfl dX6_clearThings_8 zf_X6_20 rfl hi.lt hi.ty rfl ?_
  refine zj_callV0 (n := 14) (a' := 0) (b' := 0) rfl dX6_clearThings_11 zm_X6_33 (by decide) (hi.ltc (c := 3) (by decide)) (by rw [(hi.ty1 (c := 3) (by decide))]; rfl) (Nat.le_of_ble_eq_true rfl) (Nat.le_of_ble_eq_true rfl) (Nat.le_of_ble_eq_true rfl) (Nat.le_of_ble_eq_true rfl) (jX7_clear h3.1 ?_)
  refine zj_aload0 (n := 15) rfl dX6_clearThings_14 ?_
  refine zj_getr (n := 18) (q := r + 5) rfl dX6_clearThings_15 zf_X6_23 rfl hi.lt hi.ty rfl ?_
  refine zj_callV0 (n := 21) (a' := 0) (b' := 0) rfl dX6_clearThings_18 zm_X6_33 (by decide) (hi.ltc (c := 5) (by decide)) (by rw [(hi.ty1 (c := 5) (by decide))]; rfl) (Nat.le_of_ble_eq_true rfl) (Nat.le_of_ble_eq_true rfl) (Nat.le_of_ble_eq_true rfl) (Nat.le_of_ble_eq_true rfl) (jX7_clear h5.1 ?_)
  exact zj_return dX6_clearThings_21 rfl (h _ (fun i q1 q2 q3 => by dsimp only; rw [zU_off q3, zU_off q2, zU_off q1]) rfl (h1.sz (by dsimp only; rw [zU_off (by omega), zU_off (by omega), zU_nj (by decide)]) (by dsimp only; rw [zU_off (by omega), zU_off (by omega), zU_eq]; rfl) (by decide)) (h3.sz (by dsimp only; rw [zU_off (by omega), zU_nj (by decide), zU_off (by omega)]) (by dsimp only; rw [zU_off (by omega), zU_eq]; rfl) (by decide)) (h5.sz (by dsimp only; rw [zU_nj (by decide), zU_off (by omega), zU_off (by omega)]) (by dsimp only; rw [zU_eq]; rfl) (by decide)))
def zC1 (M M' : zM) : Prop := (∀ a, a ≠ 9 → a ≠ 104 → M'.1 a = M.1 a) ∧ M'.2 = M.2 ∧ ∀ j, j < 4 ∨ 8 ≤ j → M'.1 9 j = M.1 9 j
theorem zC1.kf {M M1 M2 : zM} (h : zC1 M M1) (h2 : zKf zP5 M1 M2) : zC1 M M2 := ⟨fun a h3 h4 => (h2.1 a h4).trans (h.1 a h3 h4), h2.2.1.trans h.2.1, fun j hj => by rw [h2.1 9 (by decide)]; exact h.2.2 j hj⟩
theorem zC1.put {M M1 : zM} {j : Nat} {x : Int32} (h : zC1 M M1) (hj : 4 ≤ j ∧ j < 8) : zC1 M (zU M1.1 9 j x, M1.2) := ⟨fun a h3 h4 => (zU_off h3).trans (h.1 a h3 h4), h.2.1, fun i hi => by show zU M1.1 9 j x 9 i = _; rw [zU_nj (by omega)]; exact h.2.2 i hi⟩
theorem zPs.st9 {M : zM} {n a j : Nat} {B : Nat → Nat} {s : zS} {x : Int32} (h : zPs M n B s) (ha : 9 ≤ a ∧ a ≤ 17) : zPs (zU M.1 a j x, M.2) n B s := h.cg (by dsimp only; rw [zU_off (by omega)]) (by dsimp only; rw [zU_off (by omega)]) (by dsimp only; rw [zU_off (by omega)])
theorem jX5_readRing {n : Nat} {B : Nat → Nat} {s : zS}  {Q : Option Value → zM → Prop} {X : String → zM → Prop} {M : zM} (hP : zPs M n B s) (h : ∀ M', zC1 M M' → zPs M' n B (sEnd B n (rg9 B n s)) → ((rg9 B n s).1 = 0 → M'.1 9 4 = nI (tN B n (rg2 B n s).2.2) ∧ M'.1 9 5 = nI (tN B n (rg4 B n s).2.2) ∧ M'.1 9 6 = nI (tN B n (rg6 B n s).2.2) ∧ M'.1 9 7 = nI (vRul B n (rg8 B n s).2.2)) → Q none M') : zJ yX5_readRing cX5_readRing 1 none rX5_readRing Q X rX5_readRing.cells rX5_readRing.slots 0 (zEnt 1 [.ref 104]) [] M := by
  show zJ yX5_readRing cX5_readRing 1 none rX5_readRing Q X 0 0 0 [some (.ref 104)] [] M
  refine zj_aload0 (n := 1) rfl dX5_readRing_0 ?_
  refine zj_getkw (i := 0) (n := 4) rfl dX5_readRing_1 (by decide) rfl zs_X5_73 ?_
  refine zj_callV1 (n := 7) (a' := 0) (b' := 0) rfl dX5_readRing_4 zm_X5_76 (by decide) (by decide) rfl (Nat.le_of_ble_eq_true rfl) (Nat.le_of_ble_eq_true rfl) (Nat.le_of_ble_eq_true rfl) (Nat.le_of_ble_eq_true rfl) (jX5_take hP (by decide) ?_)
  intro M0 hF0_ hP0
  have hF0 : zC1 M M0 := zC1.kf (M1 := M) ⟨fun _ _ _ => rfl, rfl, fun _ _ => rfl⟩ hF0_
  refine zj_aload0 (n := 8) rfl dX5_readRing_7 ?_
  refine zj_getkw (i := 1) (n := 11) rfl dX5_readRing_8 (by decide) rfl zs_X5_80 ?_
  refine zj_callV1 (n := 14) (a' := 0) (b' := 0) rfl dX5_readRing_11 zm_X5_76 (by decide) (by decide) rfl (Nat.le_of_ble_eq_true rfl) (Nat.le_of_ble_eq_true rfl) (Nat.le_of_ble_eq_true rfl) (Nat.le_of_ble_eq_true rfl) (jX5_take hP0 (by decide) ?_)
  intro M1 hF1_ hP1
  have hF1 : zC1 M M1 := hF0.kf hF1_
  refine zj_aload0 (n := 15) rfl dX5_readRing_14 ?_
  refine zj_getr (n := 18) (q := 9) rfl dX5_readRing_15 zf_X5_12 rfl (by decide) (by decide) rfl ?_
  refine zj_aload0 (n := 19) rfl dX5_readRing_18 ?_
  refine zj_iconstN_1 (n := 20) rfl dX5_readRing_19 ?_
  refine zj_ldcN (v := 99999) (n := 22) rfl dX5_readRing_20 zc_X5_83 ?_
  refine zj_callV2 (n := 25) (a' := 0) (b' := 0) rfl dX5_readRing_22 zm_X5_84 (by decide) (by decide) rfl (Nat.le_of_ble_eq_true rfl) (Nat.le_of_ble_eq_true rfl) (Nat.le_of_ble_eq_true rfl) (Nat.le_of_ble_eq_true rfl) (jX5_takeNumber hP1 (by decide) (by decide) ?_)
  intro M2 x2 hb2 hF2_ hP2 hx2
  have hF2 : zC1 M M2 := hF1.kf hF2_
  refine zj_puti (n := 28) rfl dX5_readRing_25 zp_X5_88 rfl (by decide) (by decide) ?_
  refine zj_gen (P := fun M3 => zC1 M M3 ∧ zPs M3 n B (rg3 B n s) ∧ M3.1 9 4 = nI x2) ⟨hF2.put (by decide), hP2.st9 (by decide), zUe⟩ ?_
  intro M3 h3
  obtain ⟨hF3, hP3, hv3_0⟩ := h3
  refine zj_aload0 (n := 29) rfl dX5_readRing_28 ?_
  refine zj_getkw (i := 2) (n := 32) rfl dX5_readRing_29 (by decide) rfl zs_X5_91 ?_
  refine zj_callV1 (n := 35) (a' := 0) (b' := 0) rfl dX5_readRing_32 zm_X5_76 (by decide) (by decide) rfl (Nat.le_of_ble_eq_true rfl) (Nat.le_of_ble_eq_true rfl) (Nat.le_of_ble_eq_true rfl) (Nat.le_of_ble_eq_true rfl) (jX5_take hP3 (by decide) ?_)
  intro M4 hF4_ hP4
  have hF4 : zC1 M M4 := hF3.kf hF4_
  have hv4_0 := (congrFun (hF4_.1 9 (by decide)) 4).trans hv3_0
  refine zj_aload0 (n := 36) rfl dX5_readRing_35 ?_
  refine zj_getr (n := 39) (q := 9) rfl dX5_readRing_36 zf_X5_12 rfl (by decide) (by decide) rfl ?_
  refine zj_aload0 (n := 40) rfl dX5_readRing_39 ?_
  refine zj_iconstN_0 (n := 41) rfl dX5_readRing_40 ?_
  refine zj_ldcN (v := 99999) (n := 43) rfl dX5_readRing_41 zc_X5_83 ?_
  refine zj_callV2 (n := 46) (a' := 0) (b' := 0) rfl dX5_readRing_43 zm_X5_84 (by decide) (by decide) rfl (Nat.le_of_ble_eq_true rfl) (Nat.le_of_ble_eq_true rfl) (Nat.le_of_ble_eq_true rfl) (Nat.le_of_ble_eq_true rfl) (jX5_takeNumber hP4 (by decide) (by decide) ?_)
  intro M5 x5 hb5 hF5_ hP5 hx5
  have hF5 : zC1 M M5 := hF4.kf hF5_
  have hv5_0 := (congrFun (hF5_.1 9 (by decide)) 4).trans hv4_0
  refine zj_puti (n := 49) rfl dX5_readRing_46 zp_X5_94 rfl (by decide) (by decide) ?_
  refine zj_gen (P := fun M6 => zC1 M M6 ∧ zPs M6 n B (rg5 B n s) ∧ M6.1 9 4 = nI x2 ∧ M6.1 9 5 = nI x5) ⟨hF5.put (by decide), hP5.st9 (by decide), (by dsimp only; rw [zU_nj (by decide)]; exact hv5_0), zUe⟩ ?_
  intro M6 h6
  obtain ⟨hF6, hP6, hv6_0, hv6_1⟩ := h6
  refine zj_aload0 (n := 50) rfl dX5_readRing_49 ?_
  refine zj_getkw (i := 3) (n := 53) rfl dX5_readRing_50 (by decide) rfl zs_X5_97 ?_
  refine zj_callV1 (n := 56) (a' := 0) (b' := 0) rfl dX5_readRing_53 zm_X5_76 (by decide) (by decide) rfl (Nat.le_of_ble_eq_true rfl) (Nat.le_of_ble_eq_true rfl) (Nat.le_of_ble_eq_true rfl) (Nat.le_of_ble_eq_true rfl) (jX5_take hP6 (by decide) ?_)
  intro M7 hF7_ hP7
  have hF7 : zC1 M M7 := hF6.kf hF7_
  have hv7_0 := (congrFun (hF7_.1 9 (by decide)) 4).trans hv6_0
  have hv7_1 := (congrFun (hF7_.1 9 (by decide)) 5).trans hv6_1
  refine zj_aload0 (n := 57) rfl dX5_readRing_56 ?_
  refine zj_getr (n := 60) (q := 9) rfl dX5_readRing_57 zf_X5_12 rfl (by decide) (by decide) rfl ?_
  refine zj_aload0 (n := 61) rfl dX5_readRing_60 ?_
  refine zj_iconstN_0 (n := 62) rfl dX5_readRing_61 ?_
  refine zj_sipushN (v := 9999) (n := 65) rfl dX5_readRing_62 (by decide) ?_
  refine zj_callV2 (n := 68) (a' := 0) (b' := 0) rfl dX5_readRing_65 zm_X5_84 (by decide) (by decide) rfl (Nat.le_of_ble_eq_true rfl) (Nat.le_of_ble_eq_true rfl) (Nat.le_of_ble_eq_true rfl) (Nat.le_of_ble_eq_true rfl) (jX5_takeNumber hP7 (by decide) (by decide) ?_)
  intro M8 x8 hb8 hF8_ hP8 hx8
  have hF8 : zC1 M M8 := hF7.kf hF8_
  have hv8_0 := (congrFun (hF8_.1 9 (by decide)) 4).trans hv7_0
  have hv8_1 := (congrFun (hF8_.1 9 (by decide)) 5).trans hv7_1
  refine zj_puti (n := 71) rfl dX5_readRing_68 zp_X5_100 rfl (by decide) (by decide) ?_
  refine zj_gen (P := fun M9 => zC1 M M9 ∧ zPs M9 n B (rg7 B n s) ∧ M9.1 9 4 = nI x2 ∧ M9.1 9 5 = nI x5 ∧ M9.1 9 6 = nI x8) ⟨hF8.put (by decide), hP8.st9 (by decide), (by dsimp only; rw [zU_nj (by decide)]; exact hv8_0), (by dsimp only; rw [zU_nj (by decide)]; exact hv8_1), zUe⟩ ?_
  intro M9 h9
  obtain ⟨hF9, hP9, hv9_0, hv9_1, hv9_2⟩ := h9
  refine zj_aload0 (n := 72) rfl dX5_readRing_71 ?_
  refine zj_getkw (i := 4) (n := 75) rfl dX5_readRing_72 (by decide) rfl zs_X5_103 ?_
  refine zj_callV1 (n := 78) (a' := 0) (b' := 0) rfl dX5_readRing_75 zm_X5_76 (by decide) (by decide) rfl (Nat.le_of_ble_eq_true rfl) (Nat.le_of_ble_eq_true rfl) (Nat.le_of_ble_eq_true rfl) (Nat.le_of_ble_eq_true rfl) (jX5_take hP9 (by decide) ?_)
  intro M10 hF10_ hP10
  have hF10 : zC1 M M10 := hF9.kf hF10_
  have hv10_0 := (congrFun (hF10_.1 9 (by decide)) 4).trans hv9_0
  have hv10_1 := (congrFun (hF10_.1 9 (by decide)) 5).trans hv9_1
  have hv10_2 := (congrFun (hF10_.1 9 (by decide)) 6).trans hv9_2
  refine zj_aload0 (n := 79) rfl dX5_readRing_78 ?_
  refine zj_getr (n := 82) (q := 9) rfl dX5_readRing_79 zf_X5_12 rfl (by decide) (by decide) rfl ?_
  refine zj_aload0 (n := 83) rfl dX5_readRing_82 ?_
  refine zj_callV0 (n := 86) (a' := 0) (b' := 0) rfl dX5_readRing_83 zm_X5_106 (by decide) (by decide) rfl (Nat.le_of_ble_eq_true rfl) (Nat.le_of_ble_eq_true rfl) (Nat.le_of_ble_eq_true rfl) (Nat.le_of_ble_eq_true rfl) (jX5_takeRule hP10 ?_)
  intro M11 x11 hF11_ hP11 hx11
  have hF11 : zC1 M M11 := hF10.kf hF11_
  have hv11_0 := (congrFun (hF11_.1 9 (by decide)) 4).trans hv10_0
  have hv11_1 := (congrFun (hF11_.1 9 (by decide)) 5).trans hv10_1
  have hv11_2 := (congrFun (hF11_.1 9 (by decide)) 6).trans hv10_2
  refine zj_puti (n := 89) rfl dX5_readRing_86 zp_X5_110 rfl (by decide) (by decide) ?_
  refine zj_gen (P := fun M12 => zC1 M M12 ∧ zPs M12 n B (rg9 B n s) ∧ M12.1 9 4 = nI x2 ∧ M12.1 9 5 = nI x5 ∧ M12.1 9 6 = nI x8 ∧ M12.1 9 7 = nI x11) ⟨hF11.put (by decide), hP11.st9 (by decide), (by dsimp only; rw [zU_nj (by decide)]; exact hv11_0), (by dsimp only; rw [zU_nj (by decide)]; exact hv11_1), (by dsimp only; rw [zU_nj (by decide)]; exact hv11_2), zUe⟩ ?_
  intro M12 h12
  obtain ⟨hF12, hP12, hv12_0, hv12_1, hv12_2, hv12_3⟩ := h12
  refine zj_aload0 (n := 90) rfl dX5_readRing_89 ?_
  refine zj_callV0 (n := 93) (a' := 0) (b' := 0) rfl dX5_readRing_90 zm_X5_113 (by decide) (by decide) rfl (Nat.le_of_ble_eq_true rfl) (Nat.le_of_ble_eq_true rfl) (Nat.le_of_ble_eq_true rfl) (Nat.le_of_ble_eq_true rfl) (jX5_takeEnd hP12 ?_)
  intro M13 hF13_ hP13
  have hF13 : zC1 M M13 := hF12.kf hF13_
  have hv13_0 := (congrFun (hF13_.1 9 (by decide)) 4).trans hv12_0
  have hv13_1 := (congrFun (hF13_.1 9 (by decide)) 5).trans hv12_1
  have hv13_2 := (congrFun (hF13_.1 9 (by decide)) 6).trans hv12_2
  have hv13_3 := (congrFun (hF13_.1 9 (by decide)) 7).trans hv12_3
  exact zj_return dX5_readRing_93 rfl (h M13 hF13 hP13 (fun q => by
  have q8 := ((sErr_ok (by decide)).mp (sNext_ok.mp q)).1
  have q7 := (sTake_ok q8).1
  have q5 := (sTake_ok (sNum_ok q7).1).1
  have q3 := (sTake_ok (sNum_ok q5).1).1
  rw [hv13_0, hv13_1, hv13_2, hv13_3, hx2 q3, hx5 q5, hx8 q7, hx11 q]
  exact ⟨rfl, rfl, rfl, rfl⟩))
