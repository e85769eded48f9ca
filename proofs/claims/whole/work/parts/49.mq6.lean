/-! THE MODEL'S THOUGHTS -/
theorem vround_low {v : zV} (hW : zWF v) {i : Nat} (hi : i < 202) (h4 : i ≠ 4) (h5 : i ≠ 5) (h9 : i ≠ 9) : vround v i = v i := by
  unfold vround
  rw [vset_off h5, vrecord_low (by omega) h9]
  unfold vend
  rw [vset_off h4]
  exact (vfix_ok hW _ (Nat.le_refl _)).1.low hW hi
theorem vrs_low {v : zV} (hW : zWF v) {i : Nat} (hi : i < 202) (h4 : i ≠ 4) (h5 : i ≠ 5) (h9 : i ≠ 9) : ∀ k, vrs v k i = v i := by
  intro k
  induction k with
  | zero => rfl
  | succ k ih => rw [vrs_succ, vround_low (vrs_wf hW k) hi h4 h5 h9]; exact ih
def a_toRepair (v : zV) (x : Int32) : zA := if zin x (v 8) then (0, zo (zfo 301 (fun k => !vdam (vrs v k) 0 (xn x)))) else (1, nI 0)
def vcalm (v : zV) : Option Nat := zfo 301 (fun k => !vany (vrs v k))
def vcalmN (v : zV) : Nat := zFst 301 (fun k => !vany (vrs v k))
def a_toCalm (v : zV) : zA := (0, zo (vcalm v))
def a_paid (v : zV) : zA := (0, if vcalmN v < 301 then nI (min 2000000000 (vrpaid v (vcalmN v))) else -1)
def a_soldIn (v : zV) (x : Int32) : zA := if zin x 301 then (0, nI (vrsold v (xn x))) else (1, nI 0)
def a_purse (v : zV) (x y : Int32) : zA := if zin x (v 7) then (if zin y 301 then (0, nI (vrs v (xn y) (202 + 11 * xn x + 2))) else (2, nI 0)) else (1, nI 0)
def zTh (M M2 : zM) : Prop := (∀ a j, zQmI a j = false → a ≠ 119 → M2.1 a j = M.1 a j) ∧ (∀ c j, c ≠ 121 → ¬ (c = 118 ∧ j = 14) → M2.2.1 c j = M.2.1 c j) ∧ M2.2.2 = M.2.2 ∧ (∀ j, j < 698 → M2.1 127 j = M.1 119 j) ∧ M2.1 118 0 = M.1 118 0
theorem zTh.step {M M2 M3 : zM} (h : zTh M M2) (h2 : zSq 119 M2 M3) : zTh M M3 := by
  refine ⟨fun a j hj ha => ?_, fun c j h3 h4 => (h2.2.1 c j h4 h3).trans (h.2.1 c j h3 h4), h2.2.2.trans h.2.2.1, fun j hj => ?_, ?_⟩
  · rw [h2.1 a j ?_]
    · exact h.1 a j hj ha
    · unfold zQmI at hj
      simp only [Bool.or_eq_false_iff, Bool.and_eq_false_iff] at hj
      obtain ⟨⟨⟨x1, x2⟩, x3⟩, x4⟩ := hj
      unfold zSqI
      rw [x1, beq_false_of_ne ha]
      rcases x3 with q | q
      · rw [q]; rfl
      · rw [q.2]; simp
  · rw [h2.1 127 j (by rfl)]; exact h.2.2.2.1 j hj
  · rw [h2.1 118 0 (by rfl)]; exact h.2.2.2.2
theorem zTh.td {M M2 : zM} {d : Nat} (h : zTh M M2) (hd : M.1 118 4 = nI d) : M2.1 118 4 = nI d := by rw [h.1 118 4 rfl (by decide)]; exact hd
theorem zTh.fin {M M2 M3 : zM} (h : zTh M M2) (e : ∀ a, a ≠ 119 → M3.1 a = M2.1 a) (er : ∀ j, j < 698 → M3.1 119 j = M2.1 127 j) (el : M3.2 = M2.2) : zQm M M3 ∧ M3.1 118 0 = M.1 118 0 := by
  refine ⟨⟨fun a j hj => ?_, fun c j h1 h2 => by rw [el]; exact h.2.1 c j h1 h2, by rw [el]; exact h.2.2.1⟩, by rw [e 118 (by decide)]; exact h.2.2.2.2⟩
  by_cases ha : a = 119
  · subst ha
    have : j < 698 := by
      refine Nat.lt_of_not_le (fun q => ?_)
      simp [zQmI, q] at hj
    rw [er j this]; exact h.2.2.2.1 j this
  · rw [e a ha]; exact h.1 a j hj ha
theorem zTh.pl {M M2 : zM} {x : Int64} (h : zTh M M2) : zTh M (M2.1, zU M2.2.1 118 14 x, M2.2.2) := ⟨h.1, fun c j h1 h2 => by dsimp only; rw [zUx h2]; exact h.2.1 c j h1 h2, h.2.2.1, h.2.2.2.1, h.2.2.2.2⟩
theorem jX10_beginThought {v : zV} {Q : Option Value → zM → Prop} {X : String → zM → Prop} {M : zM} (hA : zRA M 119 v) (h : ∀ M', zTh M M' → zRA M' 119 v → (∀ a, a ≠ 127 → M'.1 a = M.1 a) → M'.2 = M.2 → Q none M') : zJ yX10_beginThought cX10_beginThought 2 none rX10_beginThought Q X rX10_beginThought.cells rX10_beginThought.slots 0 (zEnt 2 [.ref 118]) [] M := by
  show zJ yX10_beginThought cX10_beginThought 2 none rX10_beginThought Q X 0 0 0 [some (.ref 118), none] [] M
  refine zj_iconstN_0 (n := 1) rfl dX10_beginThought_0 ?_
  refine zj_istore1 (n := 2) rfl dX10_beginThought_1 rfl (Nat.le_of_ble_eq_true rfl) ?_
  refine zFor_rule (P := fun k (_ : Unit) => ∀ M2, (∀ a, a ≠ 127 → M2.1 a = M.1 a) → M2.2 = M.2 → (∀ j, j < k → M2.1 127 j = M.1 119 j) → zJ yX10_beginThought cX10_beginThought 2 none rX10_beginThought Q X 0 0 2 [some (.ref 118), some (.int (nI k))] [] M2) (n := 698) (f := fun _ s => s) (s0 := ()) ?_ ?_ M (fun _ _ => rfl) rfl (fun j hj => absurd hj (Nat.not_lt_zero j))
  · intro k _ hk9 hk M2 hF2 hL2 hr2
    refine zj_iload1 (n := 3) rfl dX10_beginThought_2 ?_
    refine zj_sipushN (v := 698) (n := 6) rfl dX10_beginThought_3 (by decide) ?_
    refine zj_icmpN_ge (n := 9) (tgt := 27) rfl dX10_beginThought_6 (by decide) (by omega) (by omega) (fun c6 => by omega) (fun c6 => ?_)
    refine zj_aload0 (n := 10) rfl dX10_beginThought_9 ?_
    refine zj_getr (n := 13) (q := 127) rfl dX10_beginThought_10 zf_X10_53 rfl (by decide) (by decide) rfl ?_
    refine zj_iload1 (n := 14) rfl dX10_beginThought_13 ?_
    refine zj_aload0 (n := 15) rfl dX10_beginThought_14 ?_
    refine zj_getr (n := 18) (q := 119) rfl dX10_beginThought_15 zf_X10_17 rfl (by decide) (by decide) rfl ?_
    refine zj_iload1 (n := 19) rfl dX10_beginThought_18 ?_
    refine zj_ialoadN (e := v k) (n := 20) rfl dX10_beginThought_19 (by decide) (by decide) (by rw [show zLen 119 = 698 from rfl]; omega) (by rw [hF2 119 (by decide)]; exact hA.2.2 k hk9) ?_
    refine zj_iastoreN (n := 21) rfl dX10_beginThought_20 (by decide) (by decide) (by rw [show zLen 127 = 698 from rfl]; omega) ?_
    refine zj_iincN1 (n := 24) rfl dX10_beginThought_21 rfl (Nat.le_of_ble_eq_true rfl) ?_
    refine zj_goto (tgt := 2) dX10_beginThought_24 (by decide) ?_
    exact hk _ (fun a ha => by dsimp only; rw [zU_off ha]; exact hF2 a ha) hL2 (fun j hj => by
      dsimp only
      by_cases e : j = k
      · subst e; rw [zU_eq]; exact (hA.2.2 j hk9).symm
      · rw [zU_nj e]; exact hr2 j (by omega))
  · intro M2 hF2 hL2 hr2
    refine zj_iload1 (n := 3) rfl dX10_beginThought_2 ?_
    refine zj_sipushN (v := 698) (n := 6) rfl dX10_beginThought_3 (by decide) ?_
    refine zj_icmpN_ge (n := 9) (tgt := 27) rfl dX10_beginThought_6 (by decide) (by omega) (by omega) (fun c6 => ?_) (fun c6 => by omega)
    exact zj_return dX10_beginThought_27 rfl (h M2 ⟨fun a j hj ha => by rw [hF2 a (fun q => by subst q; simp [zQmI] at hj)], fun c j _ _ => by rw [hL2], by rw [hL2], hr2, by rw [hF2 118 (by decide)]⟩ ⟨by rw [hL2]; exact hA.1, hA.2.1, fun j hj => by rw [hF2 119 (by decide)]; exact hA.2.2 j hj⟩ hF2 hL2)
theorem jX10_endThought {Q : Option Value → zM → Prop} {X : String → zM → Prop} {M : zM} (h : ∀ M', (∀ a, a ≠ 119 → M'.1 a = M.1 a) → (∀ j, j < 698 → M'.1 119 j = M.1 127 j) → M'.2 = M.2 → Q none M') : zJ yX10_endThought cX10_endThought 2 none rX10_endThought Q X rX10_endThought.cells rX10_endThought.slots 0 (zEnt 2 [.ref 118]) [] M := by
  show zJ yX10_endThought cX10_endThought 2 none rX10_endThought Q X 0 0 0 [some (.ref 118), none] [] M
  refine zj_iconstN_0 (n := 1) rfl dX10_endThought_0 ?_
  refine zj_istore1 (n := 2) rfl dX10_endThought_1 rfl (Nat.le_of_ble_eq_true rfl) ?_
  refine zFor_rule (P := fun k (_ : Unit) => ∀ M2, (∀ a, a ≠ 119 → M2.1 a = M.1 a) → M2.2 = M.2 → (∀ j, j < k → M2.1 119 j = M.1 127 j) → zJ yX10_endThought cX10_endThought 2 none rX10_endThought Q X 0 0 2 [some (.ref 118), some (.int (nI k))] [] M2) (n := 698) (f := fun _ s => s) (s0 := ()) ?_ ?_ M (fun _ _ => rfl) rfl (fun j hj => absurd hj (Nat.not_lt_zero j))
  · intro k _ hk9 hk M2 hF2 hL2 hr2
    refine zj_iload1 (n := 3) rfl dX10_endThought_2 ?_
    refine zj_sipushN (v := 698) (n := 6) rfl dX10_endThought_3 (by decide) ?_
    refine zj_icmpN_ge (n := 9) (tgt := 27) rfl dX10_endThought_6 (by decide) (by omega) (by omega) (fun c6 => by omega) (fun c6 => ?_)
    refine zj_aload0 (n := 10) rfl dX10_endThought_9 ?_
    refine zj_getr (n := 13) (q := 119) rfl dX10_endThought_10 zf_X10_17 rfl (by decide) (by decide) rfl ?_
    refine zj_iload1 (n := 14) rfl dX10_endThought_13 ?_
    refine zj_aload0 (n := 15) rfl dX10_endThought_14 ?_
    refine zj_getr (n := 18) (q := 127) rfl dX10_endThought_15 zf_X10_53 rfl (by decide) (by decide) rfl ?_
    refine zj_iload1 (n := 19) rfl dX10_endThought_18 ?_
    refine zj_ialoadV (n := 20) rfl dX10_endThought_19 (by decide) (by decide) (by rw [show zLen 127 = 698 from rfl]; omega) ?_
    refine zj_iastoreN (n := 21) rfl dX10_endThought_20 (by decide) (by decide) (by rw [show zLen 119 = 698 from rfl]; omega) ?_
    refine zj_iincN1 (n := 24) rfl dX10_endThought_21 rfl (Nat.le_of_ble_eq_true rfl) ?_
    refine zj_goto (tgt := 2) dX10_endThought_24 (by decide) ?_
    exact hk _ (fun a ha => by dsimp only; rw [zU_off ha]; exact hF2 a ha) hL2 (fun j hj => by
      dsimp only
      by_cases e : j = k
      · subst e; rw [zU_eq, hF2 127 (by decide)]
      · rw [zU_nj e]; exact hr2 j (by omega))
  · intro M2 hF2 hL2 hr2
    refine zj_iload1 (n := 3) rfl dX10_endThought_2 ?_
    refine zj_sipushN (v := 698) (n := 6) rfl dX10_endThought_3 (by decide) ?_
    refine zj_icmpN_ge (n := 9) (tgt := 27) rfl dX10_endThought_6 (by decide) (by omega) (by omega) (fun c6 => ?_) (fun c6 => by omega)
    exact zj_return dX10_endThought_27 rfl (h M2 hF2 hr2 hL2)
theorem jX10_roundsToRepair {v : zV} {x : Int32} {Q : Option Value → zM → Prop} {X : String → zM → Prop} {M : zM} (hA : zRA M 119 v) (hW : zWF v) (hd : M.1 118 4 = nI 0) (h : ∀ M', zQm M M' → M'.1 118 0 = nI (a_toRepair v x).1 → Q (some (.int (a_toRepair v x).2)) M') : zJ yX10_roundsToRepair cX10_roundsToRepair 3 (some .int) rX10_roundsToRepair Q X rX10_roundsToRepair.cells rX10_roundsToRepair.slots 0 (zEnt 3 [.ref 118, .int x]) [] M := by
  have h6 := hW.nN
  have h7 := hW.tN
  have h8 := hW.gN
  have h9 := hW.hN
  show zJ yX10_roundsToRepair cX10_roundsToRepair 3 (some .int) rX10_roundsToRepair Q X 0 0 0 [some (.ref 118), some (.int x), none] [] M
  refine zj_aload0 (n := 1) rfl dX10_roundsToRepair_0 ?_
  refine zj_aload0 (n := 2) rfl dX10_roundsToRepair_1 ?_
  refine zj_iload1 (n := 3) rfl dX10_roundsToRepair_2 ?_
  refine zj_callV1 (n := 6) (a' := 0) (b' := 0) rfl dX10_roundsToRepair_3 zm_X10_406 (by decide) (by decide) rfl (Nat.le_of_ble_eq_true rfl) (Nat.le_of_ble_eq_true rfl) (Nat.le_of_ble_eq_true rfl) (Nat.le_of_ble_eq_true rfl) (jX10_isGroup hA (by omega) ?_)
  refine zj_callV1 (n := 9) (a' := 0) (b' := 0) rfl dX10_roundsToRepair_6 zm_X10_216 (by decide) (by decide) rfl (Nat.le_of_ble_eq_true rfl) (Nat.le_of_ble_eq_true rfl) (Nat.le_of_ble_eq_true rfl) (Nat.le_of_ble_eq_true rfl) (jX10_passesQ ?_)
  intro M1 hQ1 hF1 hL1 h118 ht1
  have hA1 := hQ1.ra hA
  have hd1 := hQ1.td hd
  refine zj_ifB_ne (n := 12) (tgt := 14) rfl dX10_roundsToRepair_9 (by decide) (fun c9 => ?_) (fun c9 => ?_)
  · obtain ⟨n, hn, rfl⟩ := (zin_iff (by omega)).mp c9
    refine zj_aload0 (n := 15) rfl dX10_roundsToRepair_14 ?_
    refine zj_callV0 (n := 18) (a' := 0) (b' := 0) rfl dX10_roundsToRepair_15 zm_X10_451 (by decide) (by decide) rfl (Nat.le_of_ble_eq_true rfl) (Nat.le_of_ble_eq_true rfl) (Nat.le_of_ble_eq_true rfl) (Nat.le_of_ble_eq_true rfl) (jX10_beginThought hA1 ?_)
    intro Mb hTb hAb hFb hLb
    refine zj_iconstN_0 (n := 19) rfl dX10_roundsToRepair_18 ?_
    refine zj_istore2 (n := 20) rfl dX10_roundsToRepair_19 rfl (Nat.le_of_ble_eq_true rfl) ?_
    refine zFind_rule (P := fun k => ∀ M2, zTh M1 M2 → zRA M2 119 (vrs v k) → zJ yX10_roundsToRepair cX10_roundsToRepair 3 (some .int) rX10_roundsToRepair Q X 0 0 20 [some (.ref 118), some (.int (nI n)), some (.int (nI k))] [] M2) (n := 301) (p := fun k => !vdam (vrs v k) 0 n) ?_ ?_ Mb hTb hAb
    · intro k hi_k hf_k hk_k M2 hT2 hA2
      refine zj_iload2 (n := 21) rfl dX10_roundsToRepair_20 ?_
      refine zj_sipushN (v := 300) (n := 24) rfl dX10_roundsToRepair_21 (by decide) ?_
      refine zj_icmpN_gt (n := 27) (tgt := 46) rfl dX10_roundsToRepair_24 (by decide) (by omega) (by omega) (fun c24 => by omega) (fun c24 => ?_)
      refine zj_aload0 (n := 28) rfl dX10_roundsToRepair_27 ?_
      refine zj_iload1 (n := 29) rfl dX10_roundsToRepair_28 ?_
      refine zj_callV1 (n := 32) (a' := 0) (b' := 0) rfl dX10_roundsToRepair_29 zm_X10_149 (by decide) (by decide) rfl (Nat.le_of_ble_eq_true rfl) (Nat.le_of_ble_eq_true rfl) (Nat.le_of_ble_eq_true rfl) (Nat.le_of_ble_eq_true rfl) (jX10_isDamaged hA2 (vrs_wf hW k) (hT2.td hd1) (by decide) (by rw [vrs_low hW (by decide) (by decide) (by decide) (by decide)]; exact hn) ?_)
      refine zj_ifB_eq (n := 35) (tgt := 46) rfl dX10_roundsToRepair_32 (by decide) (fun c32 => ?_) (fun c32 => ?_)
      · refine zj_aload0 (n := 47) rfl dX10_roundsToRepair_46 ?_
        refine zj_callV0 (n := 50) (a' := 0) (b' := 0) rfl dX10_roundsToRepair_47 zm_X10_454 (by decide) (by decide) rfl (Nat.le_of_ble_eq_true rfl) (Nat.le_of_ble_eq_true rfl) (Nat.le_of_ble_eq_true rfl) (Nat.le_of_ble_eq_true rfl) (jX10_endThought ?_)
        intro M4 hF4 hr4 hL4
        obtain ⟨hQ4, ht4⟩ := hT2.fin hF4 hr4 hL4
        refine zj_iload2 (n := 51) rfl dX10_roundsToRepair_50 ?_
        refine zj_sipushN (v := 300) (n := 54) rfl dX10_roundsToRepair_51 (by decide) ?_
        refine zj_icmpN_le (n := 57) (tgt := 61) rfl dX10_roundsToRepair_54 (by decide) (by omega) (by omega) (fun c54 => ?_) (fun c54 => by omega)
        refine zj_iload2 (n := 62) rfl dX10_roundsToRepair_61 ?_
        refine zj_ireturn dX10_roundsToRepair_62 rfl rfl ?_
        simp only [a_toRepair, c9, if_true, if_false, Bool.false_eq_true, Bool.and_true, Bool.and_false, Bool.true_and, Bool.false_and, xn_at (show n < 2 ^ 31 by omega)] at h
        rw [zfo_some (show k < 301 by omega) (by rw [c32]; rfl) hf_k] at h
        exact h M4 (hQ1.tr hQ4) (by rw [ht4, ht1, c9]; rfl)
      · refine zj_aload0 (n := 36) rfl dX10_roundsToRepair_35 ?_
        refine zj_callV0 (n := 39) (a' := 0) (b' := 0) rfl dX10_roundsToRepair_36 zm_X10_426 (by decide) (by decide) rfl (Nat.le_of_ble_eq_true rfl) (Nat.le_of_ble_eq_true rfl) (Nat.le_of_ble_eq_true rfl) (Nat.le_of_ble_eq_true rfl) (jX10_passRound hA2 (vrs_wf hW k) (hT2.td hd1) ?_)
        intro M3 hS3 hA3 h15 hL3
        refine zj_pop (n := 40) rfl dX10_roundsToRepair_39 ?_
        refine zj_iincN2 (n := 43) rfl dX10_roundsToRepair_40 rfl (Nat.le_of_ble_eq_true rfl) ?_
        refine zj_goto (tgt := 20) dX10_roundsToRepair_43 (by decide) ?_
        exact hk_k (by rw [c32]; rfl) M3 (hT2.step hS3) hA3
    · intro hf_k M2 hT2 hA2
      refine zj_iload2 (n := 21) rfl dX10_roundsToRepair_20 ?_
      refine zj_sipushN (v := 300) (n := 24) rfl dX10_roundsToRepair_21 (by decide) ?_
      refine zj_icmpN_gt (n := 27) (tgt := 46) rfl dX10_roundsToRepair_24 (by decide) (by omega) (by omega) (fun c24 => ?_) (fun c24 => by omega)
      refine zj_aload0 (n := 47) rfl dX10_roundsToRepair_46 ?_
      refine zj_callV0 (n := 50) (a' := 0) (b' := 0) rfl dX10_roundsToRepair_47 zm_X10_454 (by decide) (by decide) rfl (Nat.le_of_ble_eq_true rfl) (Nat.le_of_ble_eq_true rfl) (Nat.le_of_ble_eq_true rfl) (Nat.le_of_ble_eq_true rfl) (jX10_endThought ?_)
      intro M4 hF4 hr4 hL4
      obtain ⟨hQ4, ht4⟩ := hT2.fin hF4 hr4 hL4
      refine zj_iload2 (n := 51) rfl dX10_roundsToRepair_50 ?_
      refine zj_sipushN (v := 300) (n := 54) rfl dX10_roundsToRepair_51 (by decide) ?_
      refine zj_icmpN_le (n := 57) (tgt := 61) rfl dX10_roundsToRepair_54 (by decide) (by omega) (by omega) (fun c54 => by omega) (fun c54 => ?_)
      refine zj_iconst_m1 (n := 58) rfl dX10_roundsToRepair_57 ?_
      refine zj_goto (tgt := 62) dX10_roundsToRepair_58 (by decide) ?_
      refine zj_ireturn dX10_roundsToRepair_62 rfl rfl ?_
      simp only [a_toRepair, c9, if_true, if_false, Bool.false_eq_true, Bool.and_true, Bool.and_false, Bool.true_and, Bool.false_and, xn_at (show n < 2 ^ 31 by omega)] at h
      rw [zfo_none hf_k] at h
      exact h M4 (hQ1.tr hQ4) (by rw [ht4, ht1, c9]; rfl)
  · refine zj_iconstN_0 (n := 13) rfl dX10_roundsToRepair_12 ?_
    refine zj_ireturn dX10_roundsToRepair_13 rfl rfl ?_
    simp only [a_toRepair, c9, if_true, if_false, Bool.false_eq_true, Bool.and_true, Bool.and_false, Bool.true_and, Bool.false_and] at h
    exact h M1 hQ1 (by rw [ht1, c9]; rfl)
theorem jX10_calm {v : zV} {Q : Option Value → zM → Prop} {X : String → zM → Prop} {M : zM} (hA : zRA M 119 v) (hW : zWF v) (hd : M.1 118 4 = nI 0) (h : ∀ M', zQm M M' → M'.2.1 118 14 = lN (vrpaid v (vcalmN v)) → M'.1 118 0 = M.1 118 0 → Q (some (.int (zo (vcalm v)))) M') : zJ yX10_calm cX10_calm 2 (some .int) rX10_calm Q X rX10_calm.cells rX10_calm.slots 0 (zEnt 2 [.ref 118]) [] M := by
  have h6 := hW.nN
  have h7 := hW.tN
  have h8 := hW.gN
  have h9 := hW.hN
  show zJ yX10_calm cX10_calm 2 (some .int) rX10_calm Q X 0 0 0 [some (.ref 118), none] [] M
  refine zj_aload0 (n := 1) rfl dX10_calm_0 ?_
  refine zj_callV0 (n := 4) (a' := 0) (b' := 0) rfl dX10_calm_1 zm_X10_451 (by decide) (by decide) rfl (Nat.le_of_ble_eq_true rfl) (Nat.le_of_ble_eq_true rfl) (Nat.le_of_ble_eq_true rfl) (Nat.le_of_ble_eq_true rfl) (jX10_beginThought hA ?_)
  intro Mb hTb hAb hFb hLb
  refine zj_aload0 (n := 5) rfl dX10_calm_4 ?_
  refine zj_lconstN_0 (n := 6) rfl dX10_calm_5 ?_
  refine zj_putl (n := 9) rfl dX10_calm_6 zp_X10_187 rfl (by decide) (by decide) ?_
  refine zj_iconstN_0 (n := 10) rfl dX10_calm_9 ?_
  refine zj_istore1 (n := 11) rfl dX10_calm_10 rfl (Nat.le_of_ble_eq_true rfl) ?_
  refine zFind_rule (P := fun k => ∀ M2, zTh M M2 → zRA M2 119 (vrs v k) → M2.2.1 118 14 = lN (vrpaid v k) → zJ yX10_calm cX10_calm 2 (some .int) rX10_calm Q X 0 0 11 [some (.ref 118), some (.int (nI k))] [] M2) (n := 301) (p := fun k => !vany (vrs v k)) ?_ ?_ _ hTb.pl hAb.offL (by dsimp only; exact zU_eq (v := lN 0))
  · intro k hi_k hf_k hk_k M2 hT2 hA2 hp2
    refine zj_iload1 (n := 12) rfl dX10_calm_11 ?_
    refine zj_sipushN (v := 300) (n := 15) rfl dX10_calm_12 (by decide) ?_
    refine zj_icmpN_gt (n := 18) (tgt := 36) rfl dX10_calm_15 (by decide) (by omega) (by omega) (fun c15 => by omega) (fun c15 => ?_)
    refine zj_aload0 (n := 19) rfl dX10_calm_18 ?_
    refine zj_callV0 (n := 22) (a' := 0) (b' := 0) rfl dX10_calm_19 zm_X10_457 (by decide) (by decide) rfl (Nat.le_of_ble_eq_true rfl) (Nat.le_of_ble_eq_true rfl) (Nat.le_of_ble_eq_true rfl) (Nat.le_of_ble_eq_true rfl) (jX10_isAnyDamaged hA2 (vrs_wf hW k) (hT2.td hd) ?_)
    refine zj_ifB_eq (n := 25) (tgt := 36) rfl dX10_calm_22 (by decide) (fun c22 => ?_) (fun c22 => ?_)
    · refine zj_aload0 (n := 37) rfl dX10_calm_36 ?_
      refine zj_callV0 (n := 40) (a' := 0) (b' := 0) rfl dX10_calm_37 zm_X10_454 (by decide) (by decide) rfl (Nat.le_of_ble_eq_true rfl) (Nat.le_of_ble_eq_true rfl) (Nat.le_of_ble_eq_true rfl) (Nat.le_of_ble_eq_true rfl) (jX10_endThought ?_)
      intro M4 hF4 hr4 hL4
      obtain ⟨hQ4, ht4⟩ := hT2.fin hF4 hr4 hL4
      refine zj_iload1 (n := 41) rfl dX10_calm_40 ?_
      refine zj_sipushN (v := 300) (n := 44) rfl dX10_calm_41 (by decide) ?_
      refine zj_icmpN_le (n := 47) (tgt := 51) rfl dX10_calm_44 (by decide) (by omega) (by omega) (fun c44 => ?_) (fun c44 => by omega)
      refine zj_iload1 (n := 52) rfl dX10_calm_51 ?_
      refine zj_ireturn dX10_calm_52 rfl rfl ?_
      have e1 : vcalm v = some k := zfo_some (show k < 301 by omega) (by rw [c22]; rfl) hf_k
      have e2 : vcalmN v = k := zFst_eq (show k < 301 by omega) (by rw [c22]; rfl) hf_k
      rw [e1, e2] at h
      exact h M4 hQ4 (by rw [hL4]; exact hp2) ht4
    · refine zj_aload0 (n := 26) rfl dX10_calm_25 ?_
      refine zj_callV0 (n := 29) (a' := 0) (b' := 0) rfl dX10_calm_26 zm_X10_426 (by decide) (by decide) rfl (Nat.le_of_ble_eq_true rfl) (Nat.le_of_ble_eq_true rfl) (Nat.le_of_ble_eq_true rfl) (Nat.le_of_ble_eq_true rfl) (jX10_passRound hA2 (vrs_wf hW k) (hT2.td hd) ?_)
      intro M3 hS3 hA3 h15 hL3
      refine zj_pop (n := 30) rfl dX10_calm_29 ?_
      refine zj_iincN1 (n := 33) rfl dX10_calm_30 rfl (Nat.le_of_ble_eq_true rfl) ?_
      refine zj_goto (tgt := 11) dX10_calm_33 (by decide) ?_
      exact hk_k (by rw [c22]; rfl) M3 (hT2.step hS3) hA3 (by rw [hL3, hp2, lN_add]; rfl)
  · intro hf_k M2 hT2 hA2 hp2
    refine zj_iload1 (n := 12) rfl dX10_calm_11 ?_
    refine zj_sipushN (v := 300) (n := 15) rfl dX10_calm_12 (by decide) ?_
    refine zj_icmpN_gt (n := 18) (tgt := 36) rfl dX10_calm_15 (by decide) (by omega) (by omega) (fun c15 => ?_) (fun c15 => by omega)
    refine zj_aload0 (n := 37) rfl dX10_calm_36 ?_
    refine zj_callV0 (n := 40) (a' := 0) (b' := 0) rfl dX10_calm_37 zm_X10_454 (by decide) (by decide) rfl (Nat.le_of_ble_eq_true rfl) (Nat.le_of_ble_eq_true rfl) (Nat.le_of_ble_eq_true rfl) (Nat.le_of_ble_eq_true rfl) (jX10_endThought ?_)
    intro M4 hF4 hr4 hL4
    obtain ⟨hQ4, ht4⟩ := hT2.fin hF4 hr4 hL4
    refine zj_iload1 (n := 41) rfl dX10_calm_40 ?_
    refine zj_sipushN (v := 300) (n := 44) rfl dX10_calm_41 (by decide) ?_
    refine zj_icmpN_le (n := 47) (tgt := 51) rfl dX10_calm_44 (by decide) (by omega) (by omega) (fun c44 => by omega) (fun c44 => ?_)
    refine zj_iconst_m1 (n := 48) rfl dX10_calm_47 ?_
    refine zj_goto (tgt := 52) dX10_calm_48 (by decide) ?_
    refine zj_ireturn dX10_calm_52 rfl rfl ?_
    have e1 : vcalm v = none := zfo_none hf_k
    have e2 : vcalmN v = 301 := zFst_none.mpr hf_k
    rw [e1, e2] at h
    exact h M4 hQ4 (by rw [hL4]; exact hp2) ht4
theorem jX10_roundsToCalm {v : zV} {Q : Option Value → zM → Prop} {X : String → zM → Prop} {M : zM} (hA : zRA M 119 v) (hW : zWF v) (hd : M.1 118 4 = nI 0) (h : ∀ M', zQm M M' → M'.1 118 0 = nI (a_toCalm v).1 → Q (some (.int (a_toCalm v).2)) M') : zJ yX10_roundsToCalm cX10_roundsToCalm 1 (some .int) rX10_roundsToCalm Q X rX10_roundsToCalm.cells rX10_roundsToCalm.slots 0 (zEnt 1 [.ref 118]) [] M := by
  have h6 := hW.nN
  have h7 := hW.tN
  have h8 := hW.gN
  have h9 := hW.hN
  show zJ yX10_roundsToCalm cX10_roundsToCalm 1 (some .int) rX10_roundsToCalm Q X 0 0 0 [some (.ref 118)] [] M
  refine zj_aload0 (n := 1) rfl dX10_roundsToCalm_0 ?_
  refine zj_iconstN_0 (n := 2) rfl dX10_roundsToCalm_1 ?_
  refine zj_puti (n := 5) rfl dX10_roundsToCalm_2 zp_X10_3 rfl (by decide) (by decide) ?_
  refine zj_gen (fun M1 => zQm M M1 ∧ M1.1 118 0 = nI 0 ∧ M1.2 = M.2) ⟨zQm.thr, by dsimp only; exact zU_eq, rfl⟩ (fun M1 h1 => ?_)
  obtain ⟨hQ1, ht1, hL1⟩ := h1
  have hA1 := hQ1.ra hA
  have hd1 := hQ1.td hd
  refine zj_aload0 (n := 6) rfl dX10_roundsToCalm_5 ?_
  refine zj_callV0 (n := 9) (a' := 0) (b' := 0) rfl dX10_roundsToCalm_6 zm_X10_460 (by decide) (by decide) rfl (Nat.le_of_ble_eq_true rfl) (Nat.le_of_ble_eq_true rfl) (Nat.le_of_ble_eq_true rfl) (Nat.le_of_ble_eq_true rfl) (jX10_calm hA1 hW hd1 ?_)
  intro M2 hQ2 hp2 ht2
  refine zj_ireturn dX10_roundsToCalm_9 rfl rfl ?_
  unfold a_toCalm at h
  dsimp only at h
  exact h M2 (hQ1.tr hQ2) (ht2.trans ht1)
theorem vrpaid_le {v : zV} (hW : zWF v) (k : Nat) (hk : k ≤ 301) : vrpaid v k < 2 ^ 62 := by
  have h1 := vsum_bd (p := fun i => vpaid (vrs v i)) (n := k) (b := 2 ^ 31) (fun i hi => Nat.le_of_lt (vpaid_lt (vrs_wf hW i)))
  have h2 : k * 2 ^ 31 ≤ 301 * 2 ^ 31 := Nat.mul_le_mul_right _ hk
  unfold vrpaid
  omega
theorem zfo_lt {n m : Nat} {p : Nat → Bool} (h : zfo n p = some m) : m < n := by
  unfold zfo at h
  split at h
  · rename_i q
    cases h
    exact q
  · cases h
theorem vcalm_lt {v : zV} {m : Nat} (h : vcalm v = some m) : m < 301 := zfo_lt h
theorem vcalm_N {v : zV} : vcalm v = if vcalmN v < 301 then some (vcalmN v) else none := rfl
theorem jX10_paidUntilCalm {v : zV} {Q : Option Value → zM → Prop} {X : String → zM → Prop} {M : zM} (hA : zRA M 119 v) (hW : zWF v) (hd : M.1 118 4 = nI 0) (h : ∀ M', zQm M M' → M'.1 118 0 = nI (a_paid v).1 → Q (some (.int (a_paid v).2)) M') : zJ yX10_paidUntilCalm cX10_paidUntilCalm 1 (some .int) rX10_paidUntilCalm Q X rX10_paidUntilCalm.cells rX10_paidUntilCalm.slots 0 (zEnt 1 [.ref 118]) [] M := by
  have h6 := hW.nN
  have h7 := hW.tN
  have h8 := hW.gN
  have h9 := hW.hN
  show zJ yX10_paidUntilCalm cX10_paidUntilCalm 1 (some .int) rX10_paidUntilCalm Q X 0 0 0 [some (.ref 118)] [] M
  refine zj_aload0 (n := 1) rfl dX10_paidUntilCalm_0 ?_
  refine zj_iconstN_0 (n := 2) rfl dX10_paidUntilCalm_1 ?_
  refine zj_puti (n := 5) rfl dX10_paidUntilCalm_2 zp_X10_3 rfl (by decide) (by decide) ?_
  refine zj_gen (fun M1 => zQm M M1 ∧ M1.1 118 0 = nI 0 ∧ M1.2 = M.2) ⟨zQm.thr, by dsimp only; exact zU_eq, rfl⟩ (fun M1 h1 => ?_)
  obtain ⟨hQ1, ht1, hL1⟩ := h1
  have hA1 := hQ1.ra hA
  have hd1 := hQ1.td hd
  refine zj_aload0 (n := 6) rfl dX10_paidUntilCalm_5 ?_
  refine zj_callV0 (n := 9) (a' := 0) (b' := 0) rfl dX10_paidUntilCalm_6 zm_X10_460 (by decide) (by decide) rfl (Nat.le_of_ble_eq_true rfl) (Nat.le_of_ble_eq_true rfl) (Nat.le_of_ble_eq_true rfl) (Nat.le_of_ble_eq_true rfl) (jX10_calm hA1 hW hd1 ?_)
  intro M2 hQ2 hp2 ht2
  refine zj_iconst_m1 (n := 10) rfl dX10_paidUntilCalm_9 ?_
  refine zj_icmpO_ne (n := 13) (tgt := 17) rfl dX10_paidUntilCalm_10 (by decide) (fun m hm => by have := vcalm_lt hm; omega) (fun m10 c10 => ?_) (fun c10 => ?_)
  · refine zj_ldc2N (v := 2000000000) (n := 20) rfl dX10_paidUntilCalm_17 zc_X10_191 ?_
    refine zj_aload0 (n := 21) rfl dX10_paidUntilCalm_20 ?_
    refine zj_getlN (e := vrpaid v (vcalmN v)) (n := 24) rfl dX10_paidUntilCalm_21 zf_X10_187 rfl (by decide) (by decide) hp2 ?_
    refine zj_lminN (n := 27) rfl dX10_paidUntilCalm_24 zm_X10_145 (by decide) (Nat.le_of_ble_eq_true rfl) (by first | omega | (have := vrpaid_le hW (vcalmN v) (zFst_le _ _); omega)) (by first | omega | (have := vrpaid_le hW (vcalmN v) (zFst_le _ _); omega)) ?_
    refine zj_l2iN (n := 28) rfl dX10_paidUntilCalm_27 ?_
    refine zj_ireturn dX10_paidUntilCalm_28 rfl rfl ?_
    unfold a_paid at h
    rw [if_pos (Classical.byContradiction (fun q => by rw [vcalm_N, if_neg q] at c10; cases c10))] at h
    exact h M2 (hQ1.tr hQ2) (ht2.trans ht1)
  · refine zj_iconst_m1 (n := 14) rfl dX10_paidUntilCalm_13 ?_
    refine zj_goto (tgt := 28) dX10_paidUntilCalm_14 (by decide) ?_
    refine zj_ireturn dX10_paidUntilCalm_28 rfl rfl ?_
    unfold a_paid at h
    rw [if_neg (fun q => by rw [vcalm_N, if_pos q] at c10; cases c10)] at h
    exact h M2 (hQ1.tr hQ2) (ht2.trans ht1)
theorem jX10_soldIn {v : zV} {x : Int32} {Q : Option Value → zM → Prop} {X : String → zM → Prop} {M : zM} (hA : zRA M 119 v) (hW : zWF v) (hd : M.1 118 4 = nI 0) (h : ∀ M', zQm M M' → M'.1 118 0 = nI (a_soldIn v x).1 → Q (some (.int (a_soldIn v x).2)) M') : zJ yX10_soldIn cX10_soldIn 4 (some .int) rX10_soldIn Q X rX10_soldIn.cells rX10_soldIn.slots 0 (zEnt 4 [.ref 118, .int x]) [] M := by
  have h6 := hW.nN
  have h7 := hW.tN
  have h8 := hW.gN
  have h9 := hW.hN
  show zJ yX10_soldIn cX10_soldIn 4 (some .int) rX10_soldIn Q X 0 0 0 [some (.ref 118), some (.int x), none, none] [] M
  refine zj_aload0 (n := 1) rfl dX10_soldIn_0 ?_
  refine zj_iload1 (n := 2) rfl dX10_soldIn_1 ?_
  refine zj_i2l (n := 3) rfl dX10_soldIn_2 ?_
  refine zj_lconstN_0 (n := 4) rfl dX10_soldIn_3 ?_
  refine zj_ldc2N (v := 300) (n := 7) rfl dX10_soldIn_4 zc_X10_463 ?_
  refine zj_callS3 (n := 10) (a' := 0) (b' := 0) rfl dX10_soldIn_7 zm_X10_62 (by decide) (Nat.le_of_ble_eq_true rfl) (Nat.le_of_ble_eq_true rfl) (Nat.le_of_ble_eq_true rfl) (Nat.le_of_ble_eq_true rfl) (jX10_inB (k := 300) (by decide) ?_)
  refine zj_callV1 (n := 13) (a' := 0) (b' := 0) rfl dX10_soldIn_10 zm_X10_216 (by decide) (by decide) rfl (Nat.le_of_ble_eq_true rfl) (Nat.le_of_ble_eq_true rfl) (Nat.le_of_ble_eq_true rfl) (Nat.le_of_ble_eq_true rfl) (jX10_passesQ ?_)
  intro M1 hQ1 hF1 hL1 h118 ht1
  have hA1 := hQ1.ra hA
  have hd1 := hQ1.td hd
  refine zj_ifB_ne (n := 16) (tgt := 18) rfl dX10_soldIn_13 (by decide) (fun c13 => ?_) (fun c13 => ?_)
  · obtain ⟨n, hn, rfl⟩ := (zin_iff (by omega)).mp c13
    refine zj_aload0 (n := 19) rfl dX10_soldIn_18 ?_
    refine zj_callV0 (n := 22) (a' := 0) (b' := 0) rfl dX10_soldIn_19 zm_X10_451 (by decide) (by decide) rfl (Nat.le_of_ble_eq_true rfl) (Nat.le_of_ble_eq_true rfl) (Nat.le_of_ble_eq_true rfl) (Nat.le_of_ble_eq_true rfl) (jX10_beginThought hA1 ?_)
    intro Mb hTb hAb hFb hLb
    refine zj_iconstN_0 (n := 23) rfl dX10_soldIn_22 ?_
    refine zj_istore2 (n := 24) rfl dX10_soldIn_23 rfl (Nat.le_of_ble_eq_true rfl) ?_
    refine zj_iconstN_0 (n := 25) rfl dX10_soldIn_24 ?_
    refine zj_istore3 (n := 26) rfl dX10_soldIn_25 rfl (Nat.le_of_ble_eq_true rfl) ?_
    refine zFor_rule (P := fun k (_ : Unit) => ∀ M2, zTh M1 M2 → zRA M2 119 (vrs v k) → zJ yX10_soldIn cX10_soldIn 4 (some .int) rX10_soldIn Q X 0 0 26 [some (.ref 118), some (.int (nI n)), some (.int (nI (vrsold v k))), some (.int (nI k))] [] M2) (n := n) (f := fun _ s => s) (s0 := ()) ?_ ?_ Mb hTb hAb
    · intro k _ hk9 hk M2 hT2 hA2
      refine zj_iload3 (n := 27) rfl dX10_soldIn_26 ?_
      refine zj_iload1 (n := 28) rfl dX10_soldIn_27 ?_
      refine zj_icmpN_ge (n := 31) (tgt := 44) rfl dX10_soldIn_28 (by decide) (by omega) (by omega) (fun c28 => by omega) (fun c28 => ?_)
      refine zj_iload2 (n := 32) rfl dX10_soldIn_31 ?_
      refine zj_aload0 (n := 33) rfl dX10_soldIn_32 ?_
      refine zj_callV0 (n := 36) (a' := 0) (b' := 0) rfl dX10_soldIn_33 zm_X10_426 (by decide) (by decide) rfl (Nat.le_of_ble_eq_true rfl) (Nat.le_of_ble_eq_true rfl) (Nat.le_of_ble_eq_true rfl) (Nat.le_of_ble_eq_true rfl) (jX10_passRound hA2 (vrs_wf hW k) (hT2.td hd1) ?_)
      intro M3 hS3 hA3 h15 hL3
      refine zj_iaddN (n := 37) rfl dX10_soldIn_36 ?_
      refine zj_istore2 (n := 38) rfl dX10_soldIn_37 rfl (Nat.le_of_ble_eq_true rfl) ?_
      refine zj_iincN3 (n := 41) rfl dX10_soldIn_38 rfl (Nat.le_of_ble_eq_true rfl) ?_
      refine zj_goto (tgt := 26) dX10_soldIn_41 (by decide) ?_
      exact hk M3 (hT2.step hS3) hA3
    · intro M2 hT2 hA2
      refine zj_iload3 (n := 27) rfl dX10_soldIn_26 ?_
      refine zj_iload1 (n := 28) rfl dX10_soldIn_27 ?_
      refine zj_icmpN_ge (n := 31) (tgt := 44) rfl dX10_soldIn_28 (by decide) (by omega) (by omega) (fun c28 => ?_) (fun c28 => by omega)
      refine zj_aload0 (n := 45) rfl dX10_soldIn_44 ?_
      refine zj_callV0 (n := 48) (a' := 0) (b' := 0) rfl dX10_soldIn_45 zm_X10_454 (by decide) (by decide) rfl (Nat.le_of_ble_eq_true rfl) (Nat.le_of_ble_eq_true rfl) (Nat.le_of_ble_eq_true rfl) (Nat.le_of_ble_eq_true rfl) (jX10_endThought ?_)
      intro M4 hF4 hr4 hL4
      obtain ⟨hQ4, ht4⟩ := hT2.fin hF4 hr4 hL4
      refine zj_iload2 (n := 49) rfl dX10_soldIn_48 ?_
      refine zj_ireturn dX10_soldIn_49 rfl rfl ?_
      simp only [a_soldIn, c13, if_true, if_false, Bool.false_eq_true, Bool.and_true, Bool.and_false, Bool.true_and, Bool.false_and, xn_at (show n < 2 ^ 31 by omega)] at h
      exact h M4 (hQ1.tr hQ4) (by rw [ht4, ht1, c13]; rfl)
  · refine zj_iconstN_0 (n := 17) rfl dX10_soldIn_16 ?_
    refine zj_ireturn dX10_soldIn_17 rfl rfl ?_
    simp only [a_soldIn, c13, if_true, if_false, Bool.false_eq_true, Bool.and_true, Bool.and_false, Bool.true_and, Bool.false_and] at h
    exact h M1 hQ1 (by rw [ht1, c13]; rfl)
theorem jX10_purseAfter {v : zV} {x : Int32} {z : Int32} {Q : Option Value → zM → Prop} {X : String → zM → Prop} {M : zM} (hA : zRA M 119 v) (hW : zWF v) (hd : M.1 118 4 = nI 0) (h : ∀ M', zQm M M' → M'.1 118 0 = nI (a_purse v x z).1 → Q (some (.int (a_purse v x z).2)) M') : zJ yX10_purseAfter cX10_purseAfter 4 (some .int) rX10_purseAfter Q X rX10_purseAfter.cells rX10_purseAfter.slots 0 (zEnt 4 [.ref 118, .int x, .int z]) [] M := by
  have h6 := hW.nN
  have h7 := hW.tN
  have h8 := hW.gN
  have h9 := hW.hN
  show zJ yX10_purseAfter cX10_purseAfter 4 (some .int) rX10_purseAfter Q X 0 0 0 [some (.ref 118), some (.int x), some (.int z), none] [] M
  refine zj_aload0 (n := 1) rfl dX10_purseAfter_0 ?_
  refine zj_aload0 (n := 2) rfl dX10_purseAfter_1 ?_
  refine zj_iload1 (n := 3) rfl dX10_purseAfter_2 ?_
  refine zj_callV1 (n := 6) (a' := 0) (b' := 0) rfl dX10_purseAfter_3 zm_X10_401 (by decide) (by decide) rfl (Nat.le_of_ble_eq_true rfl) (Nat.le_of_ble_eq_true rfl) (Nat.le_of_ble_eq_true rfl) (Nat.le_of_ble_eq_true rfl) (jX10_isTenant hA (by omega) ?_)
  refine zj_iload2 (n := 7) rfl dX10_purseAfter_6 ?_
  refine zj_i2l (n := 8) rfl dX10_purseAfter_7 ?_
  refine zj_lconstN_0 (n := 9) rfl dX10_purseAfter_8 ?_
  refine zj_ldc2N (v := 300) (n := 12) rfl dX10_purseAfter_9 zc_X10_463 ?_
  refine zj_callS3 (n := 15) (a' := 0) (b' := 0) rfl dX10_purseAfter_12 zm_X10_62 (by decide) (Nat.le_of_ble_eq_true rfl) (Nat.le_of_ble_eq_true rfl) (Nat.le_of_ble_eq_true rfl) (Nat.le_of_ble_eq_true rfl) (jX10_inB (k := 300) (by decide) ?_)
  refine zj_callV2 (n := 18) (a' := 0) (b' := 0) rfl dX10_purseAfter_15 zm_X10_395 (by decide) (by decide) rfl (Nat.le_of_ble_eq_true rfl) (Nat.le_of_ble_eq_true rfl) (Nat.le_of_ble_eq_true rfl) (Nat.le_of_ble_eq_true rfl) (jX10_passes2Q ?_)
  intro M1 hQ1 hF1 hL1 h118 ht1
  have hA1 := hQ1.ra hA
  have hd1 := hQ1.td hd
  refine zj_ifB_ne (n := 21) (tgt := 23) rfl dX10_purseAfter_18 (by decide) (fun c18 => ?_) (fun c18 => ?_)
  · obtain ⟨d1, d2⟩ := (Bool.and_eq_true _ _).mp c18
    obtain ⟨n, hn, rfl⟩ := (zin_iff (by omega)).mp d1
    obtain ⟨k, hk9, rfl⟩ := (zin_iff (by decide)).mp d2
    refine zj_aload0 (n := 24) rfl dX10_purseAfter_23 ?_
    refine zj_callV0 (n := 27) (a' := 0) (b' := 0) rfl dX10_purseAfter_24 zm_X10_451 (by decide) (by decide) rfl (Nat.le_of_ble_eq_true rfl) (Nat.le_of_ble_eq_true rfl) (Nat.le_of_ble_eq_true rfl) (Nat.le_of_ble_eq_true rfl) (jX10_beginThought hA1 ?_)
    intro Mb hTb hAb hFb hLb
    refine zj_iconstN_0 (n := 28) rfl dX10_purseAfter_27 ?_
    refine zj_istore3 (n := 29) rfl dX10_purseAfter_28 rfl (Nat.le_of_ble_eq_true rfl) ?_
    refine zFor_rule (P := fun j (_ : Unit) => ∀ M2, zTh M1 M2 → zRA M2 119 (vrs v j) → zJ yX10_purseAfter cX10_purseAfter 4 (some .int) rX10_purseAfter Q X 0 0 29 [some (.ref 118), some (.int (nI n)), some (.int (nI k)), some (.int (nI j))] [] M2) (n := k) (f := fun _ s => s) (s0 := ()) ?_ ?_ Mb hTb hAb
    · intro j _ hj hk M2 hT2 hA2
      refine zj_iload3 (n := 30) rfl dX10_purseAfter_29 ?_
      refine zj_iload2 (n := 31) rfl dX10_purseAfter_30 ?_
      refine zj_icmpN_ge (n := 34) (tgt := 45) rfl dX10_purseAfter_31 (by decide) (by omega) (by omega) (fun c31 => by omega) (fun c31 => ?_)
      refine zj_aload0 (n := 35) rfl dX10_purseAfter_34 ?_
      refine zj_callV0 (n := 38) (a' := 0) (b' := 0) rfl dX10_purseAfter_35 zm_X10_426 (by decide) (by decide) rfl (Nat.le_of_ble_eq_true rfl) (Nat.le_of_ble_eq_true rfl) (Nat.le_of_ble_eq_true rfl) (Nat.le_of_ble_eq_true rfl) (jX10_passRound hA2 (vrs_wf hW j) (hT2.td hd1) ?_)
      intro M3 hS3 hA3 h15 hL3
      refine zj_pop (n := 39) rfl dX10_purseAfter_38 ?_
      refine zj_iincN3 (n := 42) rfl dX10_purseAfter_39 rfl (Nat.le_of_ble_eq_true rfl) ?_
      refine zj_goto (tgt := 29) dX10_purseAfter_42 (by decide) ?_
      exact hk M3 (hT2.step hS3) hA3
    · intro M2 hT2 hA2
      refine zj_iload3 (n := 30) rfl dX10_purseAfter_29 ?_
      refine zj_iload2 (n := 31) rfl dX10_purseAfter_30 ?_
      refine zj_icmpN_ge (n := 34) (tgt := 45) rfl dX10_purseAfter_31 (by decide) (by omega) (by omega) (fun c31 => ?_) (fun c31 => by omega)
      refine zj_aload0 (n := 46) rfl dX10_purseAfter_45 ?_
      refine zj_iload1 (n := 47) rfl dX10_purseAfter_46 ?_
      refine zj_iconstN_2 (n := 48) rfl dX10_purseAfter_47 ?_
      refine zj_callV2 (n := 51) (a' := 0) (b' := 0) rfl dX10_purseAfter_48 zm_X10_167 (by decide) (by decide) rfl (Nat.le_of_ble_eq_true rfl) (Nat.le_of_ble_eq_true rfl) (Nat.le_of_ble_eq_true rfl) (Nat.le_of_ble_eq_true rfl) (jX10_tenantValue (c := 2) hA2 (by omega) ?_)
      refine zj_istore3 (n := 52) rfl dX10_purseAfter_51 rfl (Nat.le_of_ble_eq_true rfl) ?_
      refine zj_aload0 (n := 53) rfl dX10_purseAfter_52 ?_
      refine zj_callV0 (n := 56) (a' := 0) (b' := 0) rfl dX10_purseAfter_53 zm_X10_454 (by decide) (by decide) rfl (Nat.le_of_ble_eq_true rfl) (Nat.le_of_ble_eq_true rfl) (Nat.le_of_ble_eq_true rfl) (Nat.le_of_ble_eq_true rfl) (jX10_endThought ?_)
      intro M4 hF4 hr4 hL4
      obtain ⟨hQ4, ht4⟩ := hT2.fin hF4 hr4 hL4
      refine zj_iload3 (n := 57) rfl dX10_purseAfter_56 ?_
      refine zj_ireturn dX10_purseAfter_57 rfl rfl ?_
      simp only [a_purse, d1, d2, if_true, if_false, Bool.false_eq_true, Bool.and_true, Bool.and_false, Bool.true_and, Bool.false_and, xn_at (show n < 2 ^ 31 by omega), xn_at (show k < 2 ^ 31 by omega)] at h
      exact h M4 (hQ1.tr hQ4) (by rw [ht4, ht1, d1, d2]; rfl)
  · refine zj_iconstN_0 (n := 22) rfl dX10_purseAfter_21 ?_
    refine zj_ireturn dX10_purseAfter_22 rfl rfl ?_
    cases d1 : zin x (v 7) with
    | false =>
      simp only [a_purse, d1, if_true, if_false, Bool.false_eq_true, Bool.and_true, Bool.and_false, Bool.true_and, Bool.false_and] at h
      exact h M1 hQ1 (by rw [ht1, d1]; rfl)
    | true =>
      have d2 : zin z 301 = false := by rw [d1, Bool.true_and] at c18; exact c18
      simp only [a_purse, d1, d2, if_true, if_false, Bool.false_eq_true, Bool.and_true, Bool.and_false, Bool.true_and, Bool.false_and] at h
      exact h M1 hQ1 (by rw [ht1, d1, d2]; rfl)
