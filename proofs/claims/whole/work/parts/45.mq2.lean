/-! THE MODEL'S QUESTIONS, more -/
def a_nextRound (v : zV) : zA := (0, nI (v 5))
def a_bandwidth (v : zV) : zA := (0, nI (v 0 + v 4))
def a_clearing (v : zV) : zA := (0, nI (vclr v))
def a_historySize (v : zV) : zA := (0, nI (v 9))
def a_history (v : zV) (x y : Int32) : zA := if zin x (v 9) then (if zin y 5 then (0, nI (v (498 + 5 * xn x + xn y))) else (2, nI 0)) else (1, nI 0)
def vdear (v : zV) : Nat := zFor (v 9 - 1) (fun i b => if v (498 + 5 * b + 2) < v (498 + 5 * (i + 1) + 2) then i + 1 else b) 0
def a_dearest (v : zV) : zA := if v 9 = 0 then (1, nI 0) else (0, nI (vdear v))
def vriseS (v : zV) (k : Nat) (s : Nat × Nat) : Nat := if 0 < k ∧ v (498 + 5 * (k - 1) + 2) < v (498 + 5 * k + 2) then s.2 + 1 else 1
def vrise (v : zV) (k : Nat) : Nat × Nat := zFor k (fun k s => (max s.1 (vriseS v k s), vriseS v k s)) (0, 0)
def a_longest (v : zV) : zA := (0, nI (vrise v (v 9)).1)
theorem vrise_succ (v : zV) (k : Nat) : vrise v (k + 1) = (max (vrise v k).1 (vriseS v k (vrise v k)), vriseS v k (vrise v k)) := rfl
theorem vrise_le {v : zV} : ∀ k, (vrise v k).1 ≤ k ∧ (vrise v k).2 ≤ k := by
  intro k
  induction k with
  | zero => exact ⟨Nat.le_refl _, Nat.le_refl _⟩
  | succ k ih =>
    have h : vriseS v k (vrise v k) ≤ k + 1 := by unfold vriseS; split <;> omega
    rw [vrise_succ]
    exact ⟨by dsimp only; omega, h⟩
theorem vdear_le {v : zV} {n : Nat} : zFor n (fun i b => if v (498 + 5 * b + 2) < v (498 + 5 * (i + 1) + 2) then i + 1 else b) 0 ≤ n := by
  induction n with
  | zero => exact Nat.le_refl _
  | succ n ih => rw [zFor_succ]; split <;> omega
theorem zQm.thr {M : zM} {x : Int32} : zQm M (zU M.1 118 0 x, M.2) := zQm.rf.put rfl
theorem jX10_bids {v : zV} {x : Int32} {Q : Option Value → zM → Prop} {X : String → zM → Prop} {M : zM} (hA : zRA M 119 v) (hW : zWF v) (hd : M.1 118 4 = nI 0) (h : ∀ M', zQm M M' → M'.1 118 0 = nI (a_bids v x).1 → Q (some (.int (a_bids v x).2)) M') : zJ yX10_bids cX10_bids 2 (some .boolean) rX10_bids Q X rX10_bids.cells rX10_bids.slots 0 (zEnt 2 [.ref 118, .int x]) [] M := by
  have h6 := hW.nN
  have h7 := hW.tN
  have h8 := hW.gN
  have h9 := hW.hN
  show zJ yX10_bids cX10_bids 2 (some .boolean) rX10_bids Q X 0 0 0 [some (.ref 118), some (.int x)] [] M
  refine zj_aload0 (n := 1) rfl dX10_bids_0 ?_
  refine zj_aload0 (n := 2) rfl dX10_bids_1 ?_
  refine zj_iload1 (n := 3) rfl dX10_bids_2 ?_
  refine zj_callV1 (n := 6) (a' := 0) (b' := 0) rfl dX10_bids_3 zm_X10_406 (by decide) (by decide) rfl (Nat.le_of_ble_eq_true rfl) (Nat.le_of_ble_eq_true rfl) (Nat.le_of_ble_eq_true rfl) (Nat.le_of_ble_eq_true rfl) (jX10_isGroup hA (by omega) ?_)
  refine zj_callV1 (n := 9) (a' := 0) (b' := 0) rfl dX10_bids_6 zm_X10_216 (by decide) (by decide) rfl (Nat.le_of_ble_eq_true rfl) (Nat.le_of_ble_eq_true rfl) (Nat.le_of_ble_eq_true rfl) (Nat.le_of_ble_eq_true rfl) (jX10_passesQ ?_)
  intro M1 hQ1 hF1 hL1 h118 ht1
  have hA1 := hQ1.ra hA
  have hd1 := hQ1.td hd
  refine zj_ifB_eq (n := 12) (tgt := 24) rfl dX10_bids_9 (by decide) (fun c9 => ?_) (fun c9 => ?_)
  · refine zj_iconstN_0 (n := 25) rfl dX10_bids_24 ?_
    refine zj_ireturn dX10_bids_25 rfl rfl ?_
    simp only [a_bids, c9, if_true, if_false, Bool.false_eq_true, Bool.and_true, Bool.and_false, Bool.true_and, Bool.false_and] at h
    exact h M1 hQ1 (by rw [ht1, c9]; rfl)
  · obtain ⟨n, hn, rfl⟩ := (zin_iff (by omega)).mp c9
    refine zj_aload0 (n := 13) rfl dX10_bids_12 ?_
    refine zj_iload1 (n := 14) rfl dX10_bids_13 ?_
    refine zj_callV1 (n := 17) (a' := 0) (b' := 0) rfl dX10_bids_14 zm_X10_164 (by decide) (by decide) rfl (Nat.le_of_ble_eq_true rfl) (Nat.le_of_ble_eq_true rfl) (Nat.le_of_ble_eq_true rfl) (Nat.le_of_ble_eq_true rfl) (jX10_isBidding hA1 hW hd1 (by decide) hn ?_)
    intro L hL
    refine zj_ifB_eq (n := 20) (tgt := 24) rfl dX10_bids_17 (by decide) (fun c17 => ?_) (fun c17 => ?_)
    · refine zj_iconstN_0 (n := 25) rfl dX10_bids_24 ?_
      refine zj_ireturn dX10_bids_25 rfl rfl ?_
      simp only [a_bids, c9, c17, if_true, if_false, Bool.false_eq_true, Bool.and_true, Bool.and_false, Bool.true_and, Bool.false_and, xn_at (show n < 2 ^ 31 by omega)] at h
      exact h _ (hQ1.tr (zQm.ofSr (zSr.ofL hL))) (by rw [ht1, c9]; rfl)
    · refine zj_iconstN_1 (n := 21) rfl dX10_bids_20 ?_
      refine zj_goto (tgt := 25) dX10_bids_21 (by decide) ?_
      refine zj_ireturn dX10_bids_25 rfl rfl ?_
      simp only [a_bids, c9, c17, if_true, if_false, Bool.false_eq_true, Bool.and_true, Bool.and_false, Bool.true_and, Bool.false_and, xn_at (show n < 2 ^ 31 by omega)] at h
      exact h _ (hQ1.tr (zQm.ofSr (zSr.ofL hL))) (by rw [ht1, c9]; rfl)
theorem jX10_target {v : zV} {x : Int32} {Q : Option Value → zM → Prop} {X : String → zM → Prop} {M : zM} (hA : zRA M 119 v) (hW : zWF v) (hd : M.1 118 4 = nI 0) (h : ∀ M', zQm M M' → M'.1 118 0 = nI (a_target v x).1 → Q (some (.int (a_target v x).2)) M') : zJ yX10_target cX10_target 2 (some .int) rX10_target Q X rX10_target.cells rX10_target.slots 0 (zEnt 2 [.ref 118, .int x]) [] M := by
  have h6 := hW.nN
  have h7 := hW.tN
  have h8 := hW.gN
  have h9 := hW.hN
  show zJ yX10_target cX10_target 2 (some .int) rX10_target Q X 0 0 0 [some (.ref 118), some (.int x)] [] M
  refine zj_aload0 (n := 1) rfl dX10_target_0 ?_
  refine zj_aload0 (n := 2) rfl dX10_target_1 ?_
  refine zj_iload1 (n := 3) rfl dX10_target_2 ?_
  refine zj_callV1 (n := 6) (a' := 0) (b' := 0) rfl dX10_target_3 zm_X10_406 (by decide) (by decide) rfl (Nat.le_of_ble_eq_true rfl) (Nat.le_of_ble_eq_true rfl) (Nat.le_of_ble_eq_true rfl) (Nat.le_of_ble_eq_true rfl) (jX10_isGroup hA (by omega) ?_)
  refine zj_callV1 (n := 9) (a' := 0) (b' := 0) rfl dX10_target_6 zm_X10_216 (by decide) (by decide) rfl (Nat.le_of_ble_eq_true rfl) (Nat.le_of_ble_eq_true rfl) (Nat.le_of_ble_eq_true rfl) (Nat.le_of_ble_eq_true rfl) (jX10_passesQ ?_)
  intro M1 hQ1 hF1 hL1 h118 ht1
  have hA1 := hQ1.ra hA
  have hd1 := hQ1.td hd
  refine zj_ifB_ne (n := 12) (tgt := 14) rfl dX10_target_9 (by decide) (fun c9 => ?_) (fun c9 => ?_)
  · obtain ⟨n, hn, rfl⟩ := (zin_iff (by omega)).mp c9
    refine zj_aload0 (n := 15) rfl dX10_target_14 ?_
    refine zj_iload1 (n := 16) rfl dX10_target_15 ?_
    refine zj_callV1 (n := 19) (a' := 0) (b' := 0) rfl dX10_target_16 zm_X10_149 (by decide) (by decide) rfl (Nat.le_of_ble_eq_true rfl) (Nat.le_of_ble_eq_true rfl) (Nat.le_of_ble_eq_true rfl) (Nat.le_of_ble_eq_true rfl) (jX10_isDamaged hA1 hW hd1 (by decide) hn ?_)
    refine zj_ifB_eq (n := 22) (tgt := 35) rfl dX10_target_19 (by decide) (fun c19 => ?_) (fun c19 => ?_)
    · refine zj_iconst_m1 (n := 36) rfl dX10_target_35 ?_
      refine zj_ireturn dX10_target_36 rfl rfl ?_
      simp only [a_target, c9, c19, if_true, if_false, Bool.false_eq_true, Bool.and_true, Bool.and_false, Bool.true_and, Bool.false_and, xn_at (show n < 2 ^ 31 by omega)] at h
      exact h M1 hQ1 (by rw [ht1, c9]; rfl)
    · refine zj_aload0 (n := 23) rfl dX10_target_22 ?_
      refine zj_iload1 (n := 24) rfl dX10_target_23 ?_
      refine zj_aload0 (n := 25) rfl dX10_target_24 ?_
      refine zj_iload1 (n := 26) rfl dX10_target_25 ?_
      refine zj_callV1 (n := 29) (a' := 0) (b' := 0) rfl dX10_target_26 zm_X10_118 (by decide) (by decide) rfl (Nat.le_of_ble_eq_true rfl) (Nat.le_of_ble_eq_true rfl) (Nat.le_of_ble_eq_true rfl) (Nat.le_of_ble_eq_true rfl) (jX10_firstMissing hA1 hW hd1 (by decide) hn ?_)
      rw [if_pos c19]
      refine zj_callV2 (n := 32) (a' := 0) (b' := 0) rfl dX10_target_29 zm_X10_155 (by decide) (by decide) rfl (Nat.le_of_ble_eq_true rfl) (Nat.le_of_ble_eq_true rfl) (Nat.le_of_ble_eq_true rfl) (Nat.le_of_ble_eq_true rfl) (jX10_placeMissing hA1 hW hn (vfm_lt c19) ?_)
      refine zj_goto (tgt := 36) dX10_target_32 (by decide) ?_
      refine zj_ireturn dX10_target_36 rfl rfl ?_
      simp only [a_target, c9, c19, if_true, if_false, Bool.false_eq_true, Bool.and_true, Bool.and_false, Bool.true_and, Bool.false_and, xn_at (show n < 2 ^ 31 by omega)] at h
      exact h M1 hQ1 (by rw [ht1, c9]; rfl)
  · refine zj_iconstN_0 (n := 13) rfl dX10_target_12 ?_
    refine zj_ireturn dX10_target_13 rfl rfl ?_
    simp only [a_target, c9, if_true, if_false, Bool.false_eq_true, Bool.and_true, Bool.and_false, Bool.true_and, Bool.false_and] at h
    exact h M1 hQ1 (by rw [ht1, c9]; rfl)
theorem jX10_nodeOf {v : zV} {x : Int32} {z : Int32} {Q : Option Value → zM → Prop} {X : String → zM → Prop} {M : zM} (hA : zRA M 119 v) (hW : zWF v) (hd : M.1 118 4 = nI 0) (h : ∀ M', zQm M M' → M'.1 118 0 = nI (a_nodeOf v x z).1 → Q (some (.int (a_nodeOf v x z).2)) M') : zJ yX10_nodeOf cX10_nodeOf 3 (some .int) rX10_nodeOf Q X rX10_nodeOf.cells rX10_nodeOf.slots 0 (zEnt 3 [.ref 118, .int x, .int z]) [] M := by
  have h6 := hW.nN
  have h7 := hW.tN
  have h8 := hW.gN
  have h9 := hW.hN
  show zJ yX10_nodeOf cX10_nodeOf 3 (some .int) rX10_nodeOf Q X 0 0 0 [some (.ref 118), some (.int x), some (.int z)] [] M
  refine zj_aload0 (n := 1) rfl dX10_nodeOf_0 ?_
  refine zj_aload0 (n := 2) rfl dX10_nodeOf_1 ?_
  refine zj_iload1 (n := 3) rfl dX10_nodeOf_2 ?_
  refine zj_callV1 (n := 6) (a' := 0) (b' := 0) rfl dX10_nodeOf_3 zm_X10_406 (by decide) (by decide) rfl (Nat.le_of_ble_eq_true rfl) (Nat.le_of_ble_eq_true rfl) (Nat.le_of_ble_eq_true rfl) (Nat.le_of_ble_eq_true rfl) (jX10_isGroup hA (by omega) ?_)
  refine zj_ifB_eq (n := 9) (tgt := 30) rfl dX10_nodeOf_6 (by decide) (fun c6 => ?_) (fun c6 => ?_)
  · refine zj_iconstN_0 (n := 31) rfl dX10_nodeOf_30 ?_
    refine zj_callV1 (n := 34) (a' := 0) (b' := 0) rfl dX10_nodeOf_31 zm_X10_216 (by decide) (by decide) rfl (Nat.le_of_ble_eq_true rfl) (Nat.le_of_ble_eq_true rfl) (Nat.le_of_ble_eq_true rfl) (Nat.le_of_ble_eq_true rfl) (jX10_passesQ (p := false) ?_)
    intro M1 hQ1 hF1 hL1 h118 ht1
    have hA1 := hQ1.ra hA
    have hd1 := hQ1.td hd
    rw [show zb false = nI 0 from rfl]
    refine zj_ifN_eq (n := 37) (tgt := 46) rfl dX10_nodeOf_34 (by decide) (by omega) (fun _ => ?_) (fun h => absurd h (by decide))
    refine zj_iconstN_0 (n := 47) rfl dX10_nodeOf_46 ?_
    refine zj_ireturn dX10_nodeOf_47 rfl rfl ?_
    simp only [a_nodeOf, c6, if_true, if_false, Bool.false_eq_true, Bool.and_true, Bool.and_false, Bool.true_and, Bool.false_and] at h
    exact h M1 hQ1 (by rw [ht1]; rfl)
  · obtain ⟨n, hn, rfl⟩ := (zin_iff (by omega)).mp c6
    have hsh := (hW.sh hn).2
    refine zj_iload2 (n := 10) rfl dX10_nodeOf_9 ?_
    refine zj_i2l (n := 11) rfl dX10_nodeOf_10 ?_
    refine zj_lconstN_0 (n := 12) rfl dX10_nodeOf_11 ?_
    refine zj_aload0 (n := 13) rfl dX10_nodeOf_12 ?_
    refine zj_iload1 (n := 14) rfl dX10_nodeOf_13 ?_
    refine zj_callV1 (n := 17) (a' := 0) (b' := 0) rfl dX10_nodeOf_14 zm_X10_70 (by decide) (by decide) rfl (Nat.le_of_ble_eq_true rfl) (Nat.le_of_ble_eq_true rfl) (Nat.le_of_ble_eq_true rfl) (Nat.le_of_ble_eq_true rfl) (jX10_shardsOf hA (by omega) ?_)
    refine zj_iconstN_1 (n := 18) rfl dX10_nodeOf_17 ?_
    refine zj_isub (n := 19) rfl dX10_nodeOf_18 ?_
    refine zj_i2l (n := 20) rfl dX10_nodeOf_19 ?_
    refine zj_callS3 (n := 23) (a' := 0) (b' := 0) rfl dX10_nodeOf_20 zm_X10_62 (by decide) (Nat.le_of_ble_eq_true rfl) (Nat.le_of_ble_eq_true rfl) (Nat.le_of_ble_eq_true rfl) (Nat.le_of_ble_eq_true rfl) (jX10_inA (by omega) ?_)
    refine zj_ifB_eq (n := 26) (tgt := 30) rfl dX10_nodeOf_23 (by decide) (fun c23 => ?_) (fun c23 => ?_)
    · refine zj_iconstN_0 (n := 31) rfl dX10_nodeOf_30 ?_
      refine zj_callV1 (n := 34) (a' := 0) (b' := 0) rfl dX10_nodeOf_31 zm_X10_216 (by decide) (by decide) rfl (Nat.le_of_ble_eq_true rfl) (Nat.le_of_ble_eq_true rfl) (Nat.le_of_ble_eq_true rfl) (Nat.le_of_ble_eq_true rfl) (jX10_passesQ (p := false) ?_)
      intro M1 hQ1 hF1 hL1 h118 ht1
      have hA1 := hQ1.ra hA
      have hd1 := hQ1.td hd
      rw [show zb false = nI 0 from rfl]
      refine zj_ifN_eq (n := 37) (tgt := 46) rfl dX10_nodeOf_34 (by decide) (by omega) (fun _ => ?_) (fun h => absurd h (by decide))
      refine zj_iconstN_0 (n := 47) rfl dX10_nodeOf_46 ?_
      refine zj_ireturn dX10_nodeOf_47 rfl rfl ?_
      simp only [a_nodeOf, c6, c23, if_true, if_false, Bool.false_eq_true, Bool.and_true, Bool.and_false, Bool.true_and, Bool.false_and, xn_at (show n < 2 ^ 31 by omega)] at h
      exact h M1 hQ1 (by rw [ht1]; rfl)
    · obtain ⟨k, hk, rfl⟩ := (zin_iff (by omega)).mp c23
      refine zj_iconstN_1 (n := 27) rfl dX10_nodeOf_26 ?_
      refine zj_goto (tgt := 31) dX10_nodeOf_27 (by decide) ?_
      refine zj_callV1 (n := 34) (a' := 0) (b' := 0) rfl dX10_nodeOf_31 zm_X10_216 (by decide) (by decide) rfl (Nat.le_of_ble_eq_true rfl) (Nat.le_of_ble_eq_true rfl) (Nat.le_of_ble_eq_true rfl) (Nat.le_of_ble_eq_true rfl) (jX10_passesQ (p := true) ?_)
      intro M1 hQ1 hF1 hL1 h118 ht1
      have hA1 := hQ1.ra hA
      have hd1 := hQ1.td hd
      rw [show zb true = nI 1 from rfl]
      refine zj_ifN_eq (n := 37) (tgt := 46) rfl dX10_nodeOf_34 (by decide) (by omega) (fun h => absurd h (by decide)) (fun _ => ?_)
      refine zj_aload0 (n := 38) rfl dX10_nodeOf_37 ?_
      refine zj_iload1 (n := 39) rfl dX10_nodeOf_38 ?_
      refine zj_iload2 (n := 40) rfl dX10_nodeOf_39 ?_
      refine zj_callV2 (n := 43) (a' := 0) (b' := 0) rfl dX10_nodeOf_40 zm_X10_74 (by decide) (by decide) rfl (Nat.le_of_ble_eq_true rfl) (Nat.le_of_ble_eq_true rfl) (Nat.le_of_ble_eq_true rfl) (Nat.le_of_ble_eq_true rfl) (jX10_holder hA1 (by omega) (by omega) ?_)
      refine zj_goto (tgt := 47) dX10_nodeOf_43 (by decide) ?_
      refine zj_ireturn dX10_nodeOf_47 rfl rfl ?_
      simp only [a_nodeOf, c6, xn_at (show n < 2 ^ 31 by omega), c23, if_true, if_false, Bool.false_eq_true, Bool.and_true, Bool.and_false, Bool.true_and, Bool.false_and, xn_at (show k < 2 ^ 31 by omega)] at h
      exact h M1 hQ1 (by rw [ht1]; rfl)
theorem jX10_zonesOf {v : zV} {x : Int32} {Q : Option Value → zM → Prop} {X : String → zM → Prop} {M : zM} (hA : zRA M 119 v) (hW : zWF v) (hd : M.1 118 4 = nI 0) (h : ∀ M', zQm M M' → M'.1 118 0 = nI (a_zonesOf v x).1 → Q (some (.int (a_zonesOf v x).2)) M') : zJ yX10_zonesOf cX10_zonesOf 4 (some .int) rX10_zonesOf Q X rX10_zonesOf.cells rX10_zonesOf.slots 0 (zEnt 4 [.ref 118, .int x]) [] M := by
  have h6 := hW.nN
  have h7 := hW.tN
  have h8 := hW.gN
  have h9 := hW.hN
  show zJ yX10_zonesOf cX10_zonesOf 4 (some .int) rX10_zonesOf Q X 0 0 0 [some (.ref 118), some (.int x), none, none] [] M
  refine zj_aload0 (n := 1) rfl dX10_zonesOf_0 ?_
  refine zj_aload0 (n := 2) rfl dX10_zonesOf_1 ?_
  refine zj_iload1 (n := 3) rfl dX10_zonesOf_2 ?_
  refine zj_callV1 (n := 6) (a' := 0) (b' := 0) rfl dX10_zonesOf_3 zm_X10_406 (by decide) (by decide) rfl (Nat.le_of_ble_eq_true rfl) (Nat.le_of_ble_eq_true rfl) (Nat.le_of_ble_eq_true rfl) (Nat.le_of_ble_eq_true rfl) (jX10_isGroup hA (by omega) ?_)
  refine zj_callV1 (n := 9) (a' := 0) (b' := 0) rfl dX10_zonesOf_6 zm_X10_216 (by decide) (by decide) rfl (Nat.le_of_ble_eq_true rfl) (Nat.le_of_ble_eq_true rfl) (Nat.le_of_ble_eq_true rfl) (Nat.le_of_ble_eq_true rfl) (jX10_passesQ ?_)
  intro M1 hQ1 hF1 hL1 h118 ht1
  have hA1 := hQ1.ra hA
  have hd1 := hQ1.td hd
  refine zj_ifB_ne (n := 12) (tgt := 14) rfl dX10_zonesOf_9 (by decide) (fun c9 => ?_) (fun c9 => ?_)
  · obtain ⟨n, hn, rfl⟩ := (zin_iff (by omega)).mp c9
    refine zj_iconstN_0 (n := 15) rfl dX10_zonesOf_14 ?_
    refine zj_istore2 (n := 16) rfl dX10_zonesOf_15 rfl (Nat.le_of_ble_eq_true rfl) ?_
    refine zj_iconstN_0 (n := 17) rfl dX10_zonesOf_16 ?_
    refine zj_istore3 (n := 18) rfl dX10_zonesOf_17 rfl (Nat.le_of_ble_eq_true rfl) ?_
    have hsh := (hW.sh hn).2
    refine zFor_rule (P := fun s (_ : Unit) => ∀ m, m = vzs v n s (fun s => vav v 0 n s) → zJ yX10_zonesOf cX10_zonesOf 4 (some .int) rX10_zonesOf Q X 0 0 18 [some (.ref 118), some (.int (nI n)), some (.int (nI m)), some (.int (nI s))] [] M1) (n := vsh v n) (f := fun _ s => s) (s0 := ()) ?_ ?_ 0 vzs_zero.symm
    · intro s _ hs hk m hm
      have hh := hW.holds hn hs
      have hz1 : v (10 + 12 * hol v n s + 1) ≤ 9 := (hW.node hh).2.1
      have hz4 : nd v (hol v n s) 4 ≤ 2 := (hW.node hh).2.2.2.2
      refine zj_iload3 (n := 19) rfl dX10_zonesOf_18 ?_
      have hsh := (hW.sh hn).2
      refine zj_aload0 (n := 20) rfl dX10_zonesOf_19 ?_
      refine zj_iload1 (n := 21) rfl dX10_zonesOf_20 ?_
      refine zj_callV1 (n := 24) (a' := 0) (b' := 0) rfl dX10_zonesOf_21 zm_X10_70 (by decide) (by decide) rfl (Nat.le_of_ble_eq_true rfl) (Nat.le_of_ble_eq_true rfl) (Nat.le_of_ble_eq_true rfl) (Nat.le_of_ble_eq_true rfl) (jX10_shardsOf hA1 (by omega) ?_)
      refine zj_icmpN_ge (n := 27) (tgt := 62) rfl dX10_zonesOf_24 (by decide) (by omega) (by omega) (fun c24 => by omega) (fun c24 => ?_)
      refine zj_iload2 (n := 28) rfl dX10_zonesOf_27 ?_
      refine zj_aload0 (n := 29) rfl dX10_zonesOf_28 ?_
      refine zj_iload1 (n := 30) rfl dX10_zonesOf_29 ?_
      refine zj_iload3 (n := 31) rfl dX10_zonesOf_30 ?_
      refine zj_callV2 (n := 34) (a' := 0) (b' := 0) rfl dX10_zonesOf_31 zm_X10_106 (by decide) (by decide) rfl (Nat.le_of_ble_eq_true rfl) (Nat.le_of_ble_eq_true rfl) (Nat.le_of_ble_eq_true rfl) (Nat.le_of_ble_eq_true rfl) (jX10_isAvailable hA1 hd1 (by decide) (by omega) (by omega) (by omega) (by omega) ?_)
      refine zj_ifB_eq (n := 37) (tgt := 53) rfl dX10_zonesOf_34 (by decide) (fun c34 => ?_) (fun c34 => ?_)
      · refine zj_iconstN_0 (n := 54) rfl dX10_zonesOf_53 ?_
        refine zj_ior (n := 55) rfl dX10_zonesOf_54 ?_
        refine zj_istore2 (n := 56) rfl dX10_zonesOf_55 rfl (Nat.le_of_ble_eq_true rfl) ?_
        refine zj_iincN3 (n := 59) rfl dX10_zonesOf_56 rfl (Nat.le_of_ble_eq_true rfl) ?_
        refine zj_goto (tgt := 18) dX10_zonesOf_59 (by decide) ?_
        rw [show nI m ||| nI 0 = nI m from zor0 _]
        exact hk _ (by rw [hm, vzs_f c34])
      · refine zj_iconstN_1 (n := 38) rfl dX10_zonesOf_37 ?_
        refine zj_aload0 (n := 39) rfl dX10_zonesOf_38 ?_
        refine zj_aload0 (n := 40) rfl dX10_zonesOf_39 ?_
        refine zj_iload1 (n := 41) rfl dX10_zonesOf_40 ?_
        refine zj_iload3 (n := 42) rfl dX10_zonesOf_41 ?_
        refine zj_callV2 (n := 45) (a' := 0) (b' := 0) rfl dX10_zonesOf_42 zm_X10_74 (by decide) (by decide) rfl (Nat.le_of_ble_eq_true rfl) (Nat.le_of_ble_eq_true rfl) (Nat.le_of_ble_eq_true rfl) (Nat.le_of_ble_eq_true rfl) (jX10_holder hA1 (by omega) (by omega) ?_)
        refine zj_iconstN_1 (n := 46) rfl dX10_zonesOf_45 ?_
        refine zj_callV2 (n := 49) (a' := 0) (b' := 0) rfl dX10_zonesOf_46 zm_X10_77 (by decide) (by decide) rfl (Nat.le_of_ble_eq_true rfl) (Nat.le_of_ble_eq_true rfl) (Nat.le_of_ble_eq_true rfl) (Nat.le_of_ble_eq_true rfl) (jX10_nodeValue (c := 1) hA1 (by omega) ?_)
        refine zj_ishlN1 (n := 50) rfl dX10_zonesOf_49 (by omega) ?_
        refine zj_goto (tgt := 54) dX10_zonesOf_50 (by decide) ?_
        refine zj_ior (n := 55) rfl dX10_zonesOf_54 ?_
        refine zj_istore2 (n := 56) rfl dX10_zonesOf_55 rfl (Nat.le_of_ble_eq_true rfl) ?_
        refine zj_iincN3 (n := 59) rfl dX10_zonesOf_56 rfl (Nat.le_of_ble_eq_true rfl) ?_
        refine zj_goto (tgt := 18) dX10_zonesOf_59 (by decide) ?_
        have hl := vzs_lt v n s (fun s => vav v 0 n s)
        have hp2 : 2 ^ v (10 + 12 * hol v n s + 1) < 2 ^ 31 := Nat.pow_lt_pow_right (by decide) (by omega)
        rw [zorN (by omega) hp2, hm, show vzs v n s (fun s => vav v 0 n s) ||| 2 ^ v (10 + 12 * hol v n s + 1) = vzs v n (s + 1) (fun s => vav v 0 n s) from vzs_t c34 (show v (10 + 12 * hol v n s + 1) < 10 by omega)]
        exact hk _ rfl
    · intro m hm
      refine zj_iload3 (n := 19) rfl dX10_zonesOf_18 ?_
      have hsh := (hW.sh hn).2
      refine zj_aload0 (n := 20) rfl dX10_zonesOf_19 ?_
      refine zj_iload1 (n := 21) rfl dX10_zonesOf_20 ?_
      refine zj_callV1 (n := 24) (a' := 0) (b' := 0) rfl dX10_zonesOf_21 zm_X10_70 (by decide) (by decide) rfl (Nat.le_of_ble_eq_true rfl) (Nat.le_of_ble_eq_true rfl) (Nat.le_of_ble_eq_true rfl) (Nat.le_of_ble_eq_true rfl) (jX10_shardsOf hA1 (by omega) ?_)
      refine zj_icmpN_ge (n := 27) (tgt := 62) rfl dX10_zonesOf_24 (by decide) (by omega) (by omega) (fun c24 => ?_) (fun c24 => by omega)
      refine zj_iload2 (n := 63) rfl dX10_zonesOf_62 ?_
      rw [hm]
      refine zj_callS1 (n := 66) (a' := 0) (b' := 0) rfl dX10_zonesOf_63 zm_X10_112 (by decide) (Nat.le_of_ble_eq_true rfl) (Nat.le_of_ble_eq_true rfl) (Nat.le_of_ble_eq_true rfl) (Nat.le_of_ble_eq_true rfl) (jX10_bitCount (by have := vzs_lt v n (vsh v n) (fun s => vav v 0 n s); omega) ?_)
      rw [show zCnt 16 (fun i => (vzs v n (vsh v n) (fun s => vav v 0 n s)).testBit i) = zpop (vzs v n (vsh v n) (fun s => vav v 0 n s)) from by unfold vzs; rw [zCnt_mask (by decide), zpop_mask (by decide)]]
      refine zj_ireturn dX10_zonesOf_66 rfl rfl ?_
      simp only [a_zonesOf, c9, if_true, if_false, Bool.false_eq_true, Bool.and_true, Bool.and_false, Bool.true_and, Bool.false_and, xn_at (show n < 2 ^ 31 by omega)] at h
      exact h M1 hQ1 (by rw [ht1, c9]; rfl)
  · refine zj_iconstN_0 (n := 13) rfl dX10_zonesOf_12 ?_
    refine zj_ireturn dX10_zonesOf_13 rfl rfl ?_
    simp only [a_zonesOf, c9, if_true, if_false, Bool.false_eq_true, Bool.and_true, Bool.and_false, Bool.true_and, Bool.false_and] at h
    exact h M1 hQ1 (by rw [ht1, c9]; rfl)
theorem jX10_damaged {v : zV} {Q : Option Value → zM → Prop} {X : String → zM → Prop} {M : zM} (hA : zRA M 119 v) (hW : zWF v) (hd : M.1 118 4 = nI 0) (h : ∀ M', zQm M M' → M'.1 118 0 = nI (a_damaged v).1 → Q (some (.int (a_damaged v).2)) M') : zJ yX10_damaged cX10_damaged 3 (some .int) rX10_damaged Q X rX10_damaged.cells rX10_damaged.slots 0 (zEnt 3 [.ref 118]) [] M := by
  have h6 := hW.nN
  have h7 := hW.tN
  have h8 := hW.gN
  have h9 := hW.hN
  show zJ yX10_damaged cX10_damaged 3 (some .int) rX10_damaged Q X 0 0 0 [some (.ref 118), none, none] [] M
  refine zj_aload0 (n := 1) rfl dX10_damaged_0 ?_
  refine zj_iconstN_0 (n := 2) rfl dX10_damaged_1 ?_
  refine zj_puti (n := 5) rfl dX10_damaged_2 zp_X10_3 rfl (by decide) (by decide) ?_
  refine zj_gen (fun M1 => zQm M M1 ∧ M1.1 118 0 = nI 0 ∧ M1.2 = M.2) ⟨zQm.thr, by dsimp only; exact zU_eq, rfl⟩ (fun M1 h1 => ?_)
  obtain ⟨hQ1, ht1, hL1⟩ := h1
  have hA1 := hQ1.ra hA
  have hd1 := hQ1.td hd
  refine zj_iconstN_0 (n := 6) rfl dX10_damaged_5 ?_
  refine zj_istore1 (n := 7) rfl dX10_damaged_6 rfl (Nat.le_of_ble_eq_true rfl) ?_
  refine zj_iconstN_0 (n := 8) rfl dX10_damaged_7 ?_
  refine zj_istore2 (n := 9) rfl dX10_damaged_8 rfl (Nat.le_of_ble_eq_true rfl) ?_
  refine zFor_rule (P := fun g (_ : Unit) => ∀ m, m = zMask g (fun g => vdam v 0 g) → zJ yX10_damaged cX10_damaged 3 (some .int) rX10_damaged Q X 0 0 9 [some (.ref 118), some (.int (nI m)), some (.int (nI g))] [] M1) (n := v 8) (f := fun _ s => s) (s0 := ()) ?_ ?_ 0 rfl
  · intro g _ hg hk m hm
    refine zj_iload2 (n := 10) rfl dX10_damaged_9 ?_
    refine zj_aload0 (n := 11) rfl dX10_damaged_10 ?_
    refine zj_getr (n := 14) (q := 119) rfl dX10_damaged_11 zf_X10_17 rfl (by decide) (by decide) rfl ?_
    refine zj_bipushN (v := 8) (n := 16) rfl dX10_damaged_14 (by decide) ?_
    refine zj_ialoadN (e := v 8) (n := 17) rfl dX10_damaged_16 (by decide) (by decide) (by rw [show zLen 119 = 698 from rfl]; omega) (hA1.2.2 _ (by omega)) ?_
    refine zj_icmpN_ge (n := 20) (tgt := 44) rfl dX10_damaged_17 (by decide) (by omega) (by omega) (fun c17 => by omega) (fun c17 => ?_)
    refine zj_iload1 (n := 21) rfl dX10_damaged_20 ?_
    refine zj_aload0 (n := 22) rfl dX10_damaged_21 ?_
    refine zj_iload2 (n := 23) rfl dX10_damaged_22 ?_
    refine zj_callV1 (n := 26) (a' := 0) (b' := 0) rfl dX10_damaged_23 zm_X10_149 (by decide) (by decide) rfl (Nat.le_of_ble_eq_true rfl) (Nat.le_of_ble_eq_true rfl) (Nat.le_of_ble_eq_true rfl) (Nat.le_of_ble_eq_true rfl) (jX10_isDamaged hA1 hW hd1 (by decide) hg ?_)
    refine zj_ifB_eq (n := 29) (tgt := 35) rfl dX10_damaged_26 (by decide) (fun c26 => ?_) (fun c26 => ?_)
    · refine zj_iconstN_0 (n := 36) rfl dX10_damaged_35 ?_
      refine zj_ior (n := 37) rfl dX10_damaged_36 ?_
      refine zj_istore1 (n := 38) rfl dX10_damaged_37 rfl (Nat.le_of_ble_eq_true rfl) ?_
      refine zj_iincN2 (n := 41) rfl dX10_damaged_38 rfl (Nat.le_of_ble_eq_true rfl) ?_
      refine zj_goto (tgt := 9) dX10_damaged_41 (by decide) ?_
      rw [show nI m ||| nI 0 = nI m from zor0 _]
      exact hk _ (zmn hm c26)
    · refine zj_iconstN_1 (n := 30) rfl dX10_damaged_29 ?_
      refine zj_iload2 (n := 31) rfl dX10_damaged_30 ?_
      refine zj_ishlN1 (n := 32) rfl dX10_damaged_31 (by omega) ?_
      refine zj_goto (tgt := 36) dX10_damaged_32 (by decide) ?_
      refine zj_ior (n := 37) rfl dX10_damaged_36 ?_
      refine zj_istore1 (n := 38) rfl dX10_damaged_37 rfl (Nat.le_of_ble_eq_true rfl) ?_
      refine zj_iincN2 (n := 41) rfl dX10_damaged_38 rfl (Nat.le_of_ble_eq_true rfl) ?_
      refine zj_goto (tgt := 9) dX10_damaged_41 (by decide) ?_
      rw [zmi hm (p := fun g => vdam v 0 g) c26 (by omega)]
      exact hk _ rfl
  · intro m hm
    refine zj_iload2 (n := 10) rfl dX10_damaged_9 ?_
    refine zj_aload0 (n := 11) rfl dX10_damaged_10 ?_
    refine zj_getr (n := 14) (q := 119) rfl dX10_damaged_11 zf_X10_17 rfl (by decide) (by decide) rfl ?_
    refine zj_bipushN (v := 8) (n := 16) rfl dX10_damaged_14 (by decide) ?_
    refine zj_ialoadN (e := v 8) (n := 17) rfl dX10_damaged_16 (by decide) (by decide) (by rw [show zLen 119 = 698 from rfl]; omega) (hA1.2.2 _ (by omega)) ?_
    refine zj_icmpN_ge (n := 20) (tgt := 44) rfl dX10_damaged_17 (by decide) (by omega) (by omega) (fun c17 => ?_) (fun c17 => by omega)
    refine zj_iload1 (n := 45) rfl dX10_damaged_44 ?_
    exact zj_ireturn dX10_damaged_45 rfl rfl (zQi (h M1 hQ1 ht1) (congrArg nI hm.symm))
theorem jX10_lost {v : zV} {Q : Option Value → zM → Prop} {X : String → zM → Prop} {M : zM} (hA : zRA M 119 v) (hW : zWF v) (hd : M.1 118 4 = nI 0) (h : ∀ M', zQm M M' → M'.1 118 0 = nI (a_lost v).1 → Q (some (.int (a_lost v).2)) M') : zJ yX10_lost cX10_lost 1 (some .int) rX10_lost Q X rX10_lost.cells rX10_lost.slots 0 (zEnt 1 [.ref 118]) [] M := by
  have h6 := hW.nN
  have h7 := hW.tN
  have h8 := hW.gN
  have h9 := hW.hN
  show zJ yX10_lost cX10_lost 1 (some .int) rX10_lost Q X 0 0 0 [some (.ref 118)] [] M
  refine zj_aload0 (n := 1) rfl dX10_lost_0 ?_
  refine zj_iconstN_0 (n := 2) rfl dX10_lost_1 ?_
  refine zj_puti (n := 5) rfl dX10_lost_2 zp_X10_3 rfl (by decide) (by decide) ?_
  refine zj_gen (fun M1 => zQm M M1 ∧ M1.1 118 0 = nI 0 ∧ M1.2 = M.2) ⟨zQm.thr, by dsimp only; exact zU_eq, rfl⟩ (fun M1 h1 => ?_)
  obtain ⟨hQ1, ht1, hL1⟩ := h1
  have hA1 := hQ1.ra hA
  have hd1 := hQ1.td hd
  refine zj_aload0 (n := 6) rfl dX10_lost_5 ?_
  refine zj_callV0 (n := 9) (a' := 0) (b' := 0) rfl dX10_lost_6 zm_X10_411 (by decide) (by decide) rfl (Nat.le_of_ble_eq_true rfl) (Nat.le_of_ble_eq_true rfl) (Nat.le_of_ble_eq_true rfl) (Nat.le_of_ble_eq_true rfl) (jX10_lostSet hA1 hW hd1 (by decide) ?_)
  exact zj_ireturn dX10_lost_9 rfl rfl (h M1 hQ1 ht1)
theorem jX10_bandwidth {v : zV} {Q : Option Value → zM → Prop} {X : String → zM → Prop} {M : zM} (hA : zRA M 119 v) (hW : zWF v) (hd : M.1 118 4 = nI 0) (h : ∀ M', zQm M M' → M'.1 118 0 = nI (a_bandwidth v).1 → Q (some (.int (a_bandwidth v).2)) M') : zJ yX10_bandwidth cX10_bandwidth 1 (some .int) rX10_bandwidth Q X rX10_bandwidth.cells rX10_bandwidth.slots 0 (zEnt 1 [.ref 118]) [] M := by
  have h6 := hW.nN
  have h7 := hW.tN
  have h8 := hW.gN
  have h9 := hW.hN
  show zJ yX10_bandwidth cX10_bandwidth 1 (some .int) rX10_bandwidth Q X 0 0 0 [some (.ref 118)] [] M
  refine zj_aload0 (n := 1) rfl dX10_bandwidth_0 ?_
  refine zj_iconstN_0 (n := 2) rfl dX10_bandwidth_1 ?_
  refine zj_puti (n := 5) rfl dX10_bandwidth_2 zp_X10_3 rfl (by decide) (by decide) ?_
  refine zj_gen (fun M1 => zQm M M1 ∧ M1.1 118 0 = nI 0 ∧ M1.2 = M.2) ⟨zQm.thr, by dsimp only; exact zU_eq, rfl⟩ (fun M1 h1 => ?_)
  obtain ⟨hQ1, ht1, hL1⟩ := h1
  have hA1 := hQ1.ra hA
  have hd1 := hQ1.td hd
  refine zj_aload0 (n := 6) rfl dX10_bandwidth_5 ?_
  refine zj_getr (n := 9) (q := 119) rfl dX10_bandwidth_6 zf_X10_17 rfl (by decide) (by decide) rfl ?_
  refine zj_iconstN_0 (n := 10) rfl dX10_bandwidth_9 ?_
  refine zj_ialoadN (e := v 0) (n := 11) rfl dX10_bandwidth_10 (by decide) (by decide) (by rw [show zLen 119 = 698 from rfl]; omega) (hA1.2.2 _ (by omega)) ?_
  refine zj_aload0 (n := 12) rfl dX10_bandwidth_11 ?_
  refine zj_getr (n := 15) (q := 119) rfl dX10_bandwidth_12 zf_X10_17 rfl (by decide) (by decide) rfl ?_
  refine zj_iconstN_4 (n := 16) rfl dX10_bandwidth_15 ?_
  refine zj_ialoadN (e := v 4) (n := 17) rfl dX10_bandwidth_16 (by decide) (by decide) (by rw [show zLen 119 = 698 from rfl]; omega) (hA1.2.2 _ (by omega)) ?_
  refine zj_iaddN (n := 18) rfl dX10_bandwidth_17 ?_
  exact zj_ireturn dX10_bandwidth_18 rfl rfl (h M1 hQ1 ht1)
theorem jX10_nextRound {v : zV} {Q : Option Value → zM → Prop} {X : String → zM → Prop} {M : zM} (hA : zRA M 119 v) (hW : zWF v) (hd : M.1 118 4 = nI 0) (h : ∀ M', zQm M M' → M'.1 118 0 = nI (a_nextRound v).1 → Q (some (.int (a_nextRound v).2)) M') : zJ yX10_nextRound cX10_nextRound 1 (some .int) rX10_nextRound Q X rX10_nextRound.cells rX10_nextRound.slots 0 (zEnt 1 [.ref 118]) [] M := by
  have h6 := hW.nN
  have h7 := hW.tN
  have h8 := hW.gN
  have h9 := hW.hN
  show zJ yX10_nextRound cX10_nextRound 1 (some .int) rX10_nextRound Q X 0 0 0 [some (.ref 118)] [] M
  refine zj_aload0 (n := 1) rfl dX10_nextRound_0 ?_
  refine zj_iconstN_0 (n := 2) rfl dX10_nextRound_1 ?_
  refine zj_puti (n := 5) rfl dX10_nextRound_2 zp_X10_3 rfl (by decide) (by decide) ?_
  refine zj_gen (fun M1 => zQm M M1 ∧ M1.1 118 0 = nI 0 ∧ M1.2 = M.2) ⟨zQm.thr, by dsimp only; exact zU_eq, rfl⟩ (fun M1 h1 => ?_)
  obtain ⟨hQ1, ht1, hL1⟩ := h1
  have hA1 := hQ1.ra hA
  have hd1 := hQ1.td hd
  refine zj_aload0 (n := 6) rfl dX10_nextRound_5 ?_
  refine zj_getr (n := 9) (q := 119) rfl dX10_nextRound_6 zf_X10_17 rfl (by decide) (by decide) rfl ?_
  refine zj_iconstN_5 (n := 10) rfl dX10_nextRound_9 ?_
  refine zj_ialoadN (e := v 5) (n := 11) rfl dX10_nextRound_10 (by decide) (by decide) (by rw [show zLen 119 = 698 from rfl]; omega) (hA1.2.2 _ (by omega)) ?_
  exact zj_ireturn dX10_nextRound_11 rfl rfl (h M1 hQ1 ht1)
theorem jX10_historySize {v : zV} {Q : Option Value → zM → Prop} {X : String → zM → Prop} {M : zM} (hA : zRA M 119 v) (hW : zWF v) (hd : M.1 118 4 = nI 0) (h : ∀ M', zQm M M' → M'.1 118 0 = nI (a_historySize v).1 → Q (some (.int (a_historySize v).2)) M') : zJ yX10_historySize cX10_historySize 1 (some .int) rX10_historySize Q X rX10_historySize.cells rX10_historySize.slots 0 (zEnt 1 [.ref 118]) [] M := by
  have h6 := hW.nN
  have h7 := hW.tN
  have h8 := hW.gN
  have h9 := hW.hN
  show zJ yX10_historySize cX10_historySize 1 (some .int) rX10_historySize Q X 0 0 0 [some (.ref 118)] [] M
  refine zj_aload0 (n := 1) rfl dX10_historySize_0 ?_
  refine zj_iconstN_0 (n := 2) rfl dX10_historySize_1 ?_
  refine zj_puti (n := 5) rfl dX10_historySize_2 zp_X10_3 rfl (by decide) (by decide) ?_
  refine zj_gen (fun M1 => zQm M M1 ∧ M1.1 118 0 = nI 0 ∧ M1.2 = M.2) ⟨zQm.thr, by dsimp only; exact zU_eq, rfl⟩ (fun M1 h1 => ?_)
  obtain ⟨hQ1, ht1, hL1⟩ := h1
  have hA1 := hQ1.ra hA
  have hd1 := hQ1.td hd
  refine zj_aload0 (n := 6) rfl dX10_historySize_5 ?_
  refine zj_getr (n := 9) (q := 119) rfl dX10_historySize_6 zf_X10_17 rfl (by decide) (by decide) rfl ?_
  refine zj_bipushN (v := 9) (n := 11) rfl dX10_historySize_9 (by decide) ?_
  refine zj_ialoadN (e := v 9) (n := 12) rfl dX10_historySize_11 (by decide) (by decide) (by rw [show zLen 119 = 698 from rfl]; omega) (hA1.2.2 _ (by omega)) ?_
  exact zj_ireturn dX10_historySize_12 rfl rfl (h M1 hQ1 ht1)
theorem jX10_clearingPrice {v : zV} {Q : Option Value → zM → Prop} {X : String → zM → Prop} {M : zM} (hA : zRA M 119 v) (hW : zWF v) (hd : M.1 118 4 = nI 0) (h : ∀ M', zQm M M' → M'.1 118 0 = nI (a_clearing v).1 → Q (some (.int (a_clearing v).2)) M') : zJ yX10_clearingPrice cX10_clearingPrice 1 (some .int) rX10_clearingPrice Q X rX10_clearingPrice.cells rX10_clearingPrice.slots 0 (zEnt 1 [.ref 118]) [] M := by
  have h6 := hW.nN
  have h7 := hW.tN
  have h8 := hW.gN
  have h9 := hW.hN
  show zJ yX10_clearingPrice cX10_clearingPrice 1 (some .int) rX10_clearingPrice Q X 0 0 0 [some (.ref 118)] [] M
  refine zj_aload0 (n := 1) rfl dX10_clearingPrice_0 ?_
  refine zj_iconstN_0 (n := 2) rfl dX10_clearingPrice_1 ?_
  refine zj_puti (n := 5) rfl dX10_clearingPrice_2 zp_X10_3 rfl (by decide) (by decide) ?_
  refine zj_gen (fun M1 => zQm M M1 ∧ M1.1 118 0 = nI 0 ∧ M1.2 = M.2) ⟨zQm.thr, by dsimp only; exact zU_eq, rfl⟩ (fun M1 h1 => ?_)
  obtain ⟨hQ1, ht1, hL1⟩ := h1
  have hA1 := hQ1.ra hA
  have hd1 := hQ1.td hd
  refine zj_aload0 (n := 6) rfl dX10_clearingPrice_5 ?_
  refine zj_callV0 (n := 9) (a' := 0) (b' := 0) rfl dX10_clearingPrice_6 zm_X10_193 (by decide) (by decide) rfl (Nat.le_of_ble_eq_true rfl) (Nat.le_of_ble_eq_true rfl) (Nat.le_of_ble_eq_true rfl) (Nat.le_of_ble_eq_true rfl) (jX10_layRound hA1 hW hd1 (by decide) ?_)
  intro M2 hM2 hR2 hp2
  refine zj_aload0 (n := 10) rfl dX10_clearingPrice_9 ?_
  refine zj_getiN (e := vclr v) (n := 13) rfl dX10_clearingPrice_10 zf_X10_178 rfl (by decide) (by decide) hR2.2.2.1 ?_
  exact zj_ireturn dX10_clearingPrice_13 rfl rfl (h M2 (hQ1.tr (zQm.ofSr hM2)) ((hM2.1 118 0 rfl).trans ht1))
theorem jX10_recorded {v : zV} {n k : Nat} {Q : Option Value → zM → Prop} {X : String → zM → Prop} {M : zM} (hA : zRA M 119 v) (hb : 498 + 5 * n + k < 698) (h : Q (some (.int (nI (v (498 + 5 * n + k))))) M) : zJ yX10_recorded cX10_recorded 3 (some .int) rX10_recorded Q X rX10_recorded.cells rX10_recorded.slots 0 (zEnt 3 [.ref 118, .int (nI n), .int (nI k)]) [] M := by
  show zJ yX10_recorded cX10_recorded 3 (some .int) rX10_recorded Q X 0 0 0 [some (.ref 118), some (.int (nI n)), some (.int (nI k))] [] M
  refine zj_aload0 (n := 1) rfl dX10_recorded_0 ?_
  refine zj_getr (n := 4) (q := 119) rfl dX10_recorded_1 zf_X10_17 rfl (by decide) (by decide) rfl ?_
  refine zj_sipushN (v := 498) (n := 7) rfl dX10_recorded_4 (by decide) ?_
  refine zj_iconstN_5 (n := 8) rfl dX10_recorded_7 ?_
  refine zj_iload1 (n := 9) rfl dX10_recorded_8 ?_
  refine zj_imulN (n := 10) rfl dX10_recorded_9 ?_
  refine zj_iaddN (n := 11) rfl dX10_recorded_10 ?_
  refine zj_iload2 (n := 12) rfl dX10_recorded_11 ?_
  refine zj_iaddN (n := 13) rfl dX10_recorded_12 ?_
  refine zj_ialoadN (e := v (498 + 5 * n + k)) (n := 14) rfl dX10_recorded_13 (by decide) (by decide) (by rw [show zLen 119 = 698 from rfl]; omega) (hA.2.2 _ (by omega)) ?_
  exact zj_ireturn dX10_recorded_14 rfl rfl h
theorem jX10_history {v : zV} {x : Int32} {z : Int32} {Q : Option Value → zM → Prop} {X : String → zM → Prop} {M : zM} (hA : zRA M 119 v) (hW : zWF v) (hd : M.1 118 4 = nI 0) (h : ∀ M', zQm M M' → M'.1 118 0 = nI (a_history v x z).1 → Q (some (.int (a_history v x z).2)) M') : zJ yX10_history cX10_history 3 (some .int) rX10_history Q X rX10_history.cells rX10_history.slots 0 (zEnt 3 [.ref 118, .int x, .int z]) [] M := by
  have h6 := hW.nN
  have h7 := hW.tN
  have h8 := hW.gN
  have h9 := hW.hN
  show zJ yX10_history cX10_history 3 (some .int) rX10_history Q X 0 0 0 [some (.ref 118), some (.int x), some (.int z)] [] M
  refine zj_aload0 (n := 1) rfl dX10_history_0 ?_
  refine zj_iload1 (n := 2) rfl dX10_history_1 ?_
  refine zj_i2l (n := 3) rfl dX10_history_2 ?_
  refine zj_lconstN_0 (n := 4) rfl dX10_history_3 ?_
  refine zj_aload0 (n := 5) rfl dX10_history_4 ?_
  refine zj_getr (n := 8) (q := 119) rfl dX10_history_5 zf_X10_17 rfl (by decide) (by decide) rfl ?_
  refine zj_bipushN (v := 9) (n := 10) rfl dX10_history_8 (by decide) ?_
  refine zj_ialoadN (e := v 9) (n := 11) rfl dX10_history_10 (by decide) (by decide) (by rw [show zLen 119 = 698 from rfl]; omega) (hA.2.2 _ (by omega)) ?_
  refine zj_iconstN_1 (n := 12) rfl dX10_history_11 ?_
  refine zj_isub (n := 13) rfl dX10_history_12 ?_
  refine zj_i2l (n := 14) rfl dX10_history_13 ?_
  refine zj_callS3 (n := 17) (a' := 0) (b' := 0) rfl dX10_history_14 zm_X10_62 (by decide) (Nat.le_of_ble_eq_true rfl) (Nat.le_of_ble_eq_true rfl) (Nat.le_of_ble_eq_true rfl) (Nat.le_of_ble_eq_true rfl) (jX10_inA (by omega) ?_)
  refine zj_iload2 (n := 18) rfl dX10_history_17 ?_
  refine zj_i2l (n := 19) rfl dX10_history_18 ?_
  refine zj_lconstN_0 (n := 20) rfl dX10_history_19 ?_
  refine zj_ldc2N (v := 4) (n := 23) rfl dX10_history_20 zc_X10_404 ?_
  refine zj_callS3 (n := 26) (a' := 0) (b' := 0) rfl dX10_history_23 zm_X10_62 (by decide) (Nat.le_of_ble_eq_true rfl) (Nat.le_of_ble_eq_true rfl) (Nat.le_of_ble_eq_true rfl) (Nat.le_of_ble_eq_true rfl) (jX10_inB (k := 4) (by decide) ?_)
  refine zj_callV2 (n := 29) (a' := 0) (b' := 0) rfl dX10_history_26 zm_X10_395 (by decide) (by decide) rfl (Nat.le_of_ble_eq_true rfl) (Nat.le_of_ble_eq_true rfl) (Nat.le_of_ble_eq_true rfl) (Nat.le_of_ble_eq_true rfl) (jX10_passes2Q ?_)
  intro M1 hQ1 hF1 hL1 h118 ht1
  have hA1 := hQ1.ra hA
  have hd1 := hQ1.td hd
  refine zj_ifB_eq (n := 32) (tgt := 41) rfl dX10_history_29 (by decide) (fun c29 => ?_) (fun c29 => ?_)
  · refine zj_iconstN_0 (n := 42) rfl dX10_history_41 ?_
    refine zj_ireturn dX10_history_42 rfl rfl ?_
    cases d1 : zin x (v 9) with
    | false =>
      simp only [a_history, d1, if_true, if_false, Bool.false_eq_true, Bool.and_true, Bool.and_false, Bool.true_and, Bool.false_and] at h
      exact h M1 hQ1 (by rw [ht1, d1]; rfl)
    | true =>
      have d2 : zin z 5 = false := by rw [d1, Bool.true_and] at c29; exact c29
      simp only [a_history, d1, d2, if_true, if_false, Bool.false_eq_true, Bool.and_true, Bool.and_false, Bool.true_and, Bool.false_and] at h
      exact h M1 hQ1 (by rw [ht1, d1, d2]; rfl)
  · obtain ⟨d1, d2⟩ := (Bool.and_eq_true _ _).mp c29
    obtain ⟨n, hn, rfl⟩ := (zin_iff (by omega)).mp d1
    obtain ⟨k, hk, rfl⟩ := (zin_iff (by decide)).mp d2
    refine zj_aload0 (n := 33) rfl dX10_history_32 ?_
    refine zj_iload1 (n := 34) rfl dX10_history_33 ?_
    refine zj_iload2 (n := 35) rfl dX10_history_34 ?_
    refine zj_callV2 (n := 38) (a' := 0) (b' := 0) rfl dX10_history_35 zm_X10_465 (by decide) (by decide) rfl (Nat.le_of_ble_eq_true rfl) (Nat.le_of_ble_eq_true rfl) (Nat.le_of_ble_eq_true rfl) (Nat.le_of_ble_eq_true rfl) (jX10_recorded hA1 (by omega) ?_)
    refine zj_goto (tgt := 42) dX10_history_38 (by decide) ?_
    refine zj_ireturn dX10_history_42 rfl rfl ?_
    simp only [a_history, d1, d2, if_true, if_false, Bool.false_eq_true, Bool.and_true, Bool.and_false, Bool.true_and, Bool.false_and, xn_at (show n < 2 ^ 31 by omega), xn_at (show k < 2 ^ 31 by omega)] at h
    exact h M1 hQ1 (by rw [ht1, d1, d2]; rfl)
theorem jX10_dearestRound {v : zV} {Q : Option Value → zM → Prop} {X : String → zM → Prop} {M : zM} (hA : zRA M 119 v) (hW : zWF v) (hd : M.1 118 4 = nI 0) (h : ∀ M', zQm M M' → M'.1 118 0 = nI (a_dearest v).1 → Q (some (.int (a_dearest v).2)) M') : zJ yX10_dearestRound cX10_dearestRound 3 (some .int) rX10_dearestRound Q X rX10_dearestRound.cells rX10_dearestRound.slots 0 (zEnt 3 [.ref 118]) [] M := by
  have h6 := hW.nN
  have h7 := hW.tN
  have h8 := hW.gN
  have h9 := hW.hN
  show zJ yX10_dearestRound cX10_dearestRound 3 (some .int) rX10_dearestRound Q X 0 0 0 [some (.ref 118), none, none] [] M
  refine zj_aload0 (n := 1) rfl dX10_dearestRound_0 ?_
  refine zj_aload0 (n := 2) rfl dX10_dearestRound_1 ?_
  refine zj_getr (n := 5) (q := 119) rfl dX10_dearestRound_2 zf_X10_17 rfl (by decide) (by decide) rfl ?_
  refine zj_bipushN (v := 9) (n := 7) rfl dX10_dearestRound_5 (by decide) ?_
  refine zj_ialoadN (e := v 9) (n := 8) rfl dX10_dearestRound_7 (by decide) (by decide) (by rw [show zLen 119 = 698 from rfl]; omega) (hA.2.2 _ (by omega)) ?_
  refine zj_ifN_le (n := 11) (tgt := 15) rfl dX10_dearestRound_8 (by decide) (by omega) (fun c8 => ?_) (fun c8 => ?_)
  · refine zj_iconstN_0 (n := 16) rfl dX10_dearestRound_15 ?_
    refine zj_callV1 (n := 19) (a' := 0) (b' := 0) rfl dX10_dearestRound_16 zm_X10_216 (by decide) (by decide) rfl (Nat.le_of_ble_eq_true rfl) (Nat.le_of_ble_eq_true rfl) (Nat.le_of_ble_eq_true rfl) (Nat.le_of_ble_eq_true rfl) (jX10_passesQ (p := false) ?_)
    intro M1 hQ1 hF1 hL1 h118 ht1
    have hA1 := hQ1.ra hA
    have hd1 := hQ1.td hd
    rw [show zb false = nI 0 from rfl]
    refine zj_ifN_ne (n := 22) (tgt := 24) rfl dX10_dearestRound_19 (by decide) (by omega) (fun h => absurd h (by decide)) (fun _ => ?_)
    refine zj_iconstN_0 (n := 23) rfl dX10_dearestRound_22 ?_
    refine zj_ireturn dX10_dearestRound_23 rfl rfl ?_
    unfold a_dearest at h
    rw [if_pos c8] at h
    exact h M1 hQ1 (by rw [ht1]; rfl)
  · refine zj_iconstN_1 (n := 12) rfl dX10_dearestRound_11 ?_
    refine zj_goto (tgt := 16) dX10_dearestRound_12 (by decide) ?_
    refine zj_callV1 (n := 19) (a' := 0) (b' := 0) rfl dX10_dearestRound_16 zm_X10_216 (by decide) (by decide) rfl (Nat.le_of_ble_eq_true rfl) (Nat.le_of_ble_eq_true rfl) (Nat.le_of_ble_eq_true rfl) (Nat.le_of_ble_eq_true rfl) (jX10_passesQ (p := true) ?_)
    intro M1 hQ1 hF1 hL1 h118 ht1
    have hA1 := hQ1.ra hA
    have hd1 := hQ1.td hd
    rw [show zb true = nI 1 from rfl]
    refine zj_ifN_ne (n := 22) (tgt := 24) rfl dX10_dearestRound_19 (by decide) (by omega) (fun _ => ?_) (fun h => absurd h (by decide))
    refine zj_iconstN_0 (n := 25) rfl dX10_dearestRound_24 ?_
    refine zj_istore1 (n := 26) rfl dX10_dearestRound_25 rfl (Nat.le_of_ble_eq_true rfl) ?_
    refine zj_iconstN_1 (n := 27) rfl dX10_dearestRound_26 ?_
    refine zj_istore2 (n := 28) rfl dX10_dearestRound_27 rfl (Nat.le_of_ble_eq_true rfl) ?_
    refine zFor_rule (P := fun i (_ : Unit) => zJ yX10_dearestRound cX10_dearestRound 3 (some .int) rX10_dearestRound Q X 0 0 28 [some (.ref 118), some (.int (nI (zFor i (fun i b => if v (498 + 5 * b + 2) < v (498 + 5 * (i + 1) + 2) then i + 1 else b) 0))), some (.int (nI (i + 1)))] [] M1) (n := v 9 - 1) (f := fun _ s => s) (s0 := ()) ?_ ?_
    · intro i _ hi hk
      have hb := vdear_le (v := v) (n := i)
      refine zj_iload2 (n := 29) rfl dX10_dearestRound_28 ?_
      refine zj_aload0 (n := 30) rfl dX10_dearestRound_29 ?_
      refine zj_getr (n := 33) (q := 119) rfl dX10_dearestRound_30 zf_X10_17 rfl (by decide) (by decide) rfl ?_
      refine zj_bipushN (v := 9) (n := 35) rfl dX10_dearestRound_33 (by decide) ?_
      refine zj_ialoadN (e := v 9) (n := 36) rfl dX10_dearestRound_35 (by decide) (by decide) (by rw [show zLen 119 = 698 from rfl]; omega) (hA1.2.2 _ (by omega)) ?_
      refine zj_icmpN_ge (n := 39) (tgt := 62) rfl dX10_dearestRound_36 (by decide) (by omega) (by omega) (fun c36 => by omega) (fun c36 => ?_)
      refine zj_aload0 (n := 40) rfl dX10_dearestRound_39 ?_
      refine zj_iload2 (n := 41) rfl dX10_dearestRound_40 ?_
      refine zj_iconstN_2 (n := 42) rfl dX10_dearestRound_41 ?_
      refine zj_callV2 (n := 45) (a' := 0) (b' := 0) rfl dX10_dearestRound_42 zm_X10_465 (by decide) (by decide) rfl (Nat.le_of_ble_eq_true rfl) (Nat.le_of_ble_eq_true rfl) (Nat.le_of_ble_eq_true rfl) (Nat.le_of_ble_eq_true rfl) (jX10_recorded hA1 (by omega) ?_)
      refine zj_aload0 (n := 46) rfl dX10_dearestRound_45 ?_
      refine zj_iload1 (n := 47) rfl dX10_dearestRound_46 ?_
      refine zj_iconstN_2 (n := 48) rfl dX10_dearestRound_47 ?_
      refine zj_callV2 (n := 51) (a' := 0) (b' := 0) rfl dX10_dearestRound_48 zm_X10_465 (by decide) (by decide) rfl (Nat.le_of_ble_eq_true rfl) (Nat.le_of_ble_eq_true rfl) (Nat.le_of_ble_eq_true rfl) (Nat.le_of_ble_eq_true rfl) (jX10_recorded hA1 (by omega) ?_)
      refine zj_icmpN_le (n := 54) (tgt := 56) rfl dX10_dearestRound_51 (by decide) (by first | omega | (have h1 := hW.hist (k := i + 1) (by omega); have h1 : v (498 + 5 * (i + 1) + 2) ≤ 9999 := h1; have h2 := hW.hist (k := zFor i (fun i b => if v (498 + 5 * b + 2) < v (498 + 5 * (i + 1) + 2) then i + 1 else b) 0) (by omega); have h2 : v (498 + 5 * zFor i (fun i b => if v (498 + 5 * b + 2) < v (498 + 5 * (i + 1) + 2) then i + 1 else b) 0 + 2) ≤ 9999 := h2; omega)) (by first | omega | (have h1 := hW.hist (k := i + 1) (by omega); have h1 : v (498 + 5 * (i + 1) + 2) ≤ 9999 := h1; have h2 := hW.hist (k := zFor i (fun i b => if v (498 + 5 * b + 2) < v (498 + 5 * (i + 1) + 2) then i + 1 else b) 0) (by omega); have h2 : v (498 + 5 * zFor i (fun i b => if v (498 + 5 * b + 2) < v (498 + 5 * (i + 1) + 2) then i + 1 else b) 0 + 2) ≤ 9999 := h2; omega)) (fun c51 => ?_) (fun c51 => ?_)
      · refine zj_iincN2 (n := 59) rfl dX10_dearestRound_56 rfl (Nat.le_of_ble_eq_true rfl) ?_
        refine zj_goto (tgt := 28) dX10_dearestRound_59 (by decide) ?_
        rw [zFor_succ, if_neg (by omega)] at hk
        exact hk
      · refine zj_iload2 (n := 55) rfl dX10_dearestRound_54 ?_
        refine zj_istore1 (n := 56) rfl dX10_dearestRound_55 rfl (Nat.le_of_ble_eq_true rfl) ?_
        refine zj_iincN2 (n := 59) rfl dX10_dearestRound_56 rfl (Nat.le_of_ble_eq_true rfl) ?_
        refine zj_goto (tgt := 28) dX10_dearestRound_59 (by decide) ?_
        rw [zFor_succ, if_pos c51] at hk
        exact hk
    · skip
      refine zj_iload2 (n := 29) rfl dX10_dearestRound_28 ?_
      refine zj_aload0 (n := 30) rfl dX10_dearestRound_29 ?_
      refine zj_getr (n := 33) (q := 119) rfl dX10_dearestRound_30 zf_X10_17 rfl (by decide) (by decide) rfl ?_
      refine zj_bipushN (v := 9) (n := 35) rfl dX10_dearestRound_33 (by decide) ?_
      refine zj_ialoadN (e := v 9) (n := 36) rfl dX10_dearestRound_35 (by decide) (by decide) (by rw [show zLen 119 = 698 from rfl]; omega) (hA1.2.2 _ (by omega)) ?_
      refine zj_icmpN_ge (n := 39) (tgt := 62) rfl dX10_dearestRound_36 (by decide) (by omega) (by omega) (fun c36 => ?_) (fun c36 => by omega)
      refine zj_iload1 (n := 63) rfl dX10_dearestRound_62 ?_
      refine zj_ireturn dX10_dearestRound_63 rfl rfl ?_
      unfold a_dearest at h
      rw [if_neg (by omega)] at h
      exact h M1 hQ1 (by rw [ht1]; rfl)
theorem jX10_longestRise {v : zV} {Q : Option Value → zM → Prop} {X : String → zM → Prop} {M : zM} (hA : zRA M 119 v) (hW : zWF v) (hd : M.1 118 4 = nI 0) (h : ∀ M', zQm M M' → M'.1 118 0 = nI (a_longest v).1 → Q (some (.int (a_longest v).2)) M') : zJ yX10_longestRise cX10_longestRise 4 (some .int) rX10_longestRise Q X rX10_longestRise.cells rX10_longestRise.slots 0 (zEnt 4 [.ref 118]) [] M := by
  have h6 := hW.nN
  have h7 := hW.tN
  have h8 := hW.gN
  have h9 := hW.hN
  show zJ yX10_longestRise cX10_longestRise 4 (some .int) rX10_longestRise Q X 0 0 0 [some (.ref 118), none, none, none] [] M
  refine zj_aload0 (n := 1) rfl dX10_longestRise_0 ?_
  refine zj_iconstN_0 (n := 2) rfl dX10_longestRise_1 ?_
  refine zj_puti (n := 5) rfl dX10_longestRise_2 zp_X10_3 rfl (by decide) (by decide) ?_
  refine zj_gen (fun M1 => zQm M M1 ∧ M1.1 118 0 = nI 0 ∧ M1.2 = M.2) ⟨zQm.thr, by dsimp only; exact zU_eq, rfl⟩ (fun M1 h1 => ?_)
  obtain ⟨hQ1, ht1, hL1⟩ := h1
  have hA1 := hQ1.ra hA
  have hd1 := hQ1.td hd
  refine zj_iconstN_0 (n := 6) rfl dX10_longestRise_5 ?_
  refine zj_istore1 (n := 7) rfl dX10_longestRise_6 rfl (Nat.le_of_ble_eq_true rfl) ?_
  refine zj_iconstN_0 (n := 8) rfl dX10_longestRise_7 ?_
  refine zj_istore2 (n := 9) rfl dX10_longestRise_8 rfl (Nat.le_of_ble_eq_true rfl) ?_
  refine zj_iconstN_0 (n := 10) rfl dX10_longestRise_9 ?_
  refine zj_istore3 (n := 11) rfl dX10_longestRise_10 rfl (Nat.le_of_ble_eq_true rfl) ?_
  refine zFor_rule (P := fun k (_ : Unit) => zJ yX10_longestRise cX10_longestRise 4 (some .int) rX10_longestRise Q X 0 0 11 [some (.ref 118), some (.int (nI ((vrise v k).1))), some (.int (nI ((vrise v k).2))), some (.int (nI k))] [] M1) (n := v 9) (f := fun _ s => s) (s0 := ()) ?_ ?_
  · intro k _ hk9 hk
    obtain ⟨r1, r2⟩ := vrise_le (v := v) k
    refine zj_iload3 (n := 12) rfl dX10_longestRise_11 ?_
    refine zj_aload0 (n := 13) rfl dX10_longestRise_12 ?_
    refine zj_getr (n := 16) (q := 119) rfl dX10_longestRise_13 zf_X10_17 rfl (by decide) (by decide) rfl ?_
    refine zj_bipushN (v := 9) (n := 18) rfl dX10_longestRise_16 (by decide) ?_
    refine zj_ialoadN (e := v 9) (n := 19) rfl dX10_longestRise_18 (by decide) (by decide) (by rw [show zLen 119 = 698 from rfl]; omega) (hA1.2.2 _ (by omega)) ?_
    refine zj_icmpN_ge (n := 22) (tgt := 63) rfl dX10_longestRise_19 (by decide) (by omega) (by omega) (fun c19 => by omega) (fun c19 => ?_)
    refine zj_iload3 (n := 23) rfl dX10_longestRise_22 ?_
    refine zj_ifN_le (n := 26) (tgt := 49) rfl dX10_longestRise_23 (by decide) (by omega) (fun c23 => ?_) (fun c23 => ?_)
    · refine zj_iconstN_1 (n := 50) rfl dX10_longestRise_49 ?_
      refine zj_istore2 (n := 51) rfl dX10_longestRise_50 rfl (Nat.le_of_ble_eq_true rfl) ?_
      refine zj_iload1 (n := 52) rfl dX10_longestRise_51 ?_
      refine zj_iload2 (n := 53) rfl dX10_longestRise_52 ?_
      refine zj_imaxN (n := 56) rfl dX10_longestRise_53 zm_X10_136 (by decide) (Nat.le_of_ble_eq_true rfl) (by omega) (by omega) ?_
      refine zj_istore1 (n := 57) rfl dX10_longestRise_56 rfl (Nat.le_of_ble_eq_true rfl) ?_
      refine zj_iincN3 (n := 60) rfl dX10_longestRise_57 rfl (Nat.le_of_ble_eq_true rfl) ?_
      refine zj_goto (tgt := 11) dX10_longestRise_60 (by decide) ?_
      have e : vriseS v k (vrise v k) = 1 := by unfold vriseS; rw [if_neg (by omega)]
      rw [vrise_succ, e] at hk
      exact hk
    · refine zj_aload0 (n := 27) rfl dX10_longestRise_26 ?_
      refine zj_iload3 (n := 28) rfl dX10_longestRise_27 ?_
      refine zj_iconstN_2 (n := 29) rfl dX10_longestRise_28 ?_
      refine zj_callV2 (n := 32) (a' := 0) (b' := 0) rfl dX10_longestRise_29 zm_X10_465 (by decide) (by decide) rfl (Nat.le_of_ble_eq_true rfl) (Nat.le_of_ble_eq_true rfl) (Nat.le_of_ble_eq_true rfl) (Nat.le_of_ble_eq_true rfl) (jX10_recorded hA1 (by omega) ?_)
      refine zj_aload0 (n := 33) rfl dX10_longestRise_32 ?_
      refine zj_iload3 (n := 34) rfl dX10_longestRise_33 ?_
      refine zj_iconstN_1 (n := 35) rfl dX10_longestRise_34 ?_
      refine zj_isubN (n := 36) rfl dX10_longestRise_35 (by omega) ?_
      refine zj_iconstN_2 (n := 37) rfl dX10_longestRise_36 ?_
      refine zj_callV2 (n := 40) (a' := 0) (b' := 0) rfl dX10_longestRise_37 zm_X10_465 (by decide) (by decide) rfl (Nat.le_of_ble_eq_true rfl) (Nat.le_of_ble_eq_true rfl) (Nat.le_of_ble_eq_true rfl) (Nat.le_of_ble_eq_true rfl) (jX10_recorded hA1 (by omega) ?_)
      refine zj_icmpN_le (n := 43) (tgt := 49) rfl dX10_longestRise_40 (by decide) (by have h1 := hW.hist (k := k) (by omega); have h1 : v (498 + 5 * k + 2) ≤ 9999 := h1; have h2 := hW.hist (k := k - 1) (by omega); have h2 : v (498 + 5 * (k - 1) + 2) ≤ 9999 := h2; omega) (by have h1 := hW.hist (k := k) (by omega); have h1 : v (498 + 5 * k + 2) ≤ 9999 := h1; have h2 := hW.hist (k := k - 1) (by omega); have h2 : v (498 + 5 * (k - 1) + 2) ≤ 9999 := h2; omega) (fun c40 => ?_) (fun c40 => ?_)
      · refine zj_iconstN_1 (n := 50) rfl dX10_longestRise_49 ?_
        refine zj_istore2 (n := 51) rfl dX10_longestRise_50 rfl (Nat.le_of_ble_eq_true rfl) ?_
        refine zj_iload1 (n := 52) rfl dX10_longestRise_51 ?_
        refine zj_iload2 (n := 53) rfl dX10_longestRise_52 ?_
        refine zj_imaxN (n := 56) rfl dX10_longestRise_53 zm_X10_136 (by decide) (Nat.le_of_ble_eq_true rfl) (by omega) (by omega) ?_
        refine zj_istore1 (n := 57) rfl dX10_longestRise_56 rfl (Nat.le_of_ble_eq_true rfl) ?_
        refine zj_iincN3 (n := 60) rfl dX10_longestRise_57 rfl (Nat.le_of_ble_eq_true rfl) ?_
        refine zj_goto (tgt := 11) dX10_longestRise_60 (by decide) ?_
        have e : vriseS v k (vrise v k) = 1 := by unfold vriseS; rw [if_neg (by omega)]
        rw [vrise_succ, e] at hk
        exact hk
      · refine zj_iload2 (n := 44) rfl dX10_longestRise_43 ?_
        refine zj_iconstN_1 (n := 45) rfl dX10_longestRise_44 ?_
        refine zj_iaddN (n := 46) rfl dX10_longestRise_45 ?_
        refine zj_goto (tgt := 50) dX10_longestRise_46 (by decide) ?_
        refine zj_istore2 (n := 51) rfl dX10_longestRise_50 rfl (Nat.le_of_ble_eq_true rfl) ?_
        refine zj_iload1 (n := 52) rfl dX10_longestRise_51 ?_
        refine zj_iload2 (n := 53) rfl dX10_longestRise_52 ?_
        refine zj_imaxN (n := 56) rfl dX10_longestRise_53 zm_X10_136 (by decide) (Nat.le_of_ble_eq_true rfl) (by omega) (by omega) ?_
        refine zj_istore1 (n := 57) rfl dX10_longestRise_56 rfl (Nat.le_of_ble_eq_true rfl) ?_
        refine zj_iincN3 (n := 60) rfl dX10_longestRise_57 rfl (Nat.le_of_ble_eq_true rfl) ?_
        refine zj_goto (tgt := 11) dX10_longestRise_60 (by decide) ?_
        have e : vriseS v k (vrise v k) = (vrise v k).2 + 1 := by unfold vriseS; rw [if_pos ⟨c23, c40⟩]
        rw [vrise_succ, e] at hk
        exact hk
  · skip
    refine zj_iload3 (n := 12) rfl dX10_longestRise_11 ?_
    refine zj_aload0 (n := 13) rfl dX10_longestRise_12 ?_
    refine zj_getr (n := 16) (q := 119) rfl dX10_longestRise_13 zf_X10_17 rfl (by decide) (by decide) rfl ?_
    refine zj_bipushN (v := 9) (n := 18) rfl dX10_longestRise_16 (by decide) ?_
    refine zj_ialoadN (e := v 9) (n := 19) rfl dX10_longestRise_18 (by decide) (by decide) (by rw [show zLen 119 = 698 from rfl]; omega) (hA1.2.2 _ (by omega)) ?_
    refine zj_icmpN_ge (n := 22) (tgt := 63) rfl dX10_longestRise_19 (by decide) (by omega) (by omega) (fun c19 => ?_) (fun c19 => by omega)
    refine zj_iload1 (n := 64) rfl dX10_longestRise_63 ?_
    exact zj_ireturn dX10_longestRise_64 rfl rfl (h M1 hQ1 ht1)
theorem jX10_undoCount {Q : Option Value → zM → Prop} {X : String → zM → Prop} {M : zM} (h : ∀ M', zQm M M' → M'.1 118 0 = nI 0 → Q (some (.int (M.1 118 27))) M') : zJ yX10_undoCount cX10_undoCount 1 (some .int) rX10_undoCount Q X rX10_undoCount.cells rX10_undoCount.slots 0 (zEnt 1 [.ref 118]) [] M := by
  show zJ yX10_undoCount cX10_undoCount 1 (some .int) rX10_undoCount Q X 0 0 0 [some (.ref 118)] [] M
  refine zj_aload0 (n := 1) rfl dX10_undoCount_0 ?_
  refine zj_iconstN_0 (n := 2) rfl dX10_undoCount_1 ?_
  refine zj_puti (n := 5) rfl dX10_undoCount_2 zp_X10_3 rfl (by decide) (by decide) ?_
  refine zj_gen (fun M1 => zQm M M1 ∧ M1.1 118 0 = nI 0 ∧ M1.1 118 27 = M.1 118 27) ⟨zQm.thr, by dsimp only; exact zU_eq, by dsimp only; exact zU_nj (by decide)⟩ (fun M1 h1 => ?_)
  obtain ⟨hQ1, ht1, he1⟩ := h1
  refine zj_aload0 (n := 6) rfl dX10_undoCount_5 ?_
  refine zj_geti (n := 9) rfl dX10_undoCount_6 zf_X10_470 rfl (by decide) (by decide) ?_
  exact zj_ireturn dX10_undoCount_9 rfl rfl (by rw [he1]; exact h M1 hQ1 ht1)
theorem jX10_errorCode {Q : Option Value → zM → Prop} {X : String → zM → Prop} {M : zM} (h : ∀ M', zQm M M' → M'.1 118 0 = nI 0 → Q (some (.int (M.1 118 23))) M') : zJ yX10_errorCode cX10_errorCode 1 (some .int) rX10_errorCode Q X rX10_errorCode.cells rX10_errorCode.slots 0 (zEnt 1 [.ref 118]) [] M := by
  show zJ yX10_errorCode cX10_errorCode 1 (some .int) rX10_errorCode Q X 0 0 0 [some (.ref 118)] [] M
  refine zj_aload0 (n := 1) rfl dX10_errorCode_0 ?_
  refine zj_iconstN_0 (n := 2) rfl dX10_errorCode_1 ?_
  refine zj_puti (n := 5) rfl dX10_errorCode_2 zp_X10_3 rfl (by decide) (by decide) ?_
  refine zj_gen (fun M1 => zQm M M1 ∧ M1.1 118 0 = nI 0 ∧ M1.1 118 23 = M.1 118 23) ⟨zQm.thr, by dsimp only; exact zU_eq, by dsimp only; exact zU_nj (by decide)⟩ (fun M1 h1 => ?_)
  obtain ⟨hQ1, ht1, he1⟩ := h1
  refine zj_aload0 (n := 6) rfl dX10_errorCode_5 ?_
  refine zj_geti (n := 9) rfl dX10_errorCode_6 zf_X10_223 rfl (by decide) (by decide) ?_
  exact zj_ireturn dX10_errorCode_9 rfl rfl (by rw [he1]; exact h M1 hQ1 ht1)
theorem jX10_errorPosition {Q : Option Value → zM → Prop} {X : String → zM → Prop} {M : zM} (h : ∀ M', zQm M M' → M'.1 118 0 = nI 0 → Q (some (.int (M.1 118 24))) M') : zJ yX10_errorPosition cX10_errorPosition 1 (some .int) rX10_errorPosition Q X rX10_errorPosition.cells rX10_errorPosition.slots 0 (zEnt 1 [.ref 118]) [] M := by
  show zJ yX10_errorPosition cX10_errorPosition 1 (some .int) rX10_errorPosition Q X 0 0 0 [some (.ref 118)] [] M
  refine zj_aload0 (n := 1) rfl dX10_errorPosition_0 ?_
  refine zj_iconstN_0 (n := 2) rfl dX10_errorPosition_1 ?_
  refine zj_puti (n := 5) rfl dX10_errorPosition_2 zp_X10_3 rfl (by decide) (by decide) ?_
  refine zj_gen (fun M1 => zQm M M1 ∧ M1.1 118 0 = nI 0 ∧ M1.1 118 24 = M.1 118 24) ⟨zQm.thr, by dsimp only; exact zU_eq, by dsimp only; exact zU_nj (by decide)⟩ (fun M1 h1 => ?_)
  obtain ⟨hQ1, ht1, he1⟩ := h1
  refine zj_aload0 (n := 6) rfl dX10_errorPosition_5 ?_
  refine zj_geti (n := 9) rfl dX10_errorPosition_6 zf_X10_50 rfl (by decide) (by decide) ?_
  exact zj_ireturn dX10_errorPosition_9 rfl rfl (by rw [he1]; exact h M1 hQ1 ht1)
