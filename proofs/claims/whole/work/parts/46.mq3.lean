/-! THE MODEL'S QUESTIONS, still more -/
def vfl (v : zV) (g : Nat) : Nat := vnav v 0 g - v (268 + 23 * g + 2) + 1
def vfew (v : zV) (k : Nat) : Option Nat := zFor k (fun g s => if !vlost v 0 g && (s.isNone || decide (vfl v g < s.getD 0)) then some (vfl v g) else s) none
theorem vfew_succ (v : zV) (k : Nat) : vfew v (k + 1) = if !vlost v 0 k && ((vfew v k).isNone || decide (vfl v k < (vfew v k).getD 0)) then some (vfl v k) else vfew v k := rfl
def a_fewest (v : zV) : zA := (0, zo (vfew v (v 8)))
def vlwS (v : zV) (g n : Nat) (s : Nat × Nat) : Nat × Nat := if s.2 = 0 then s else if nd v n 4 = 1 ∨ vhas v g (vsh v g) n = false then s else (s.1 + 2 ^ n, s.2 - 1)
def vlw (v : zV) (g m k : Nat) : Nat × Nat := zFor k (vlwS v g) (0, m)
theorem vlw_succ (v : zV) (g m k : Nat) : vlw v g m (k + 1) = vlwS v g k (vlw v g m k) := rfl
def vfsS (v : zV) (g : Nat) (s : Option Nat) : Option Nat := if !vlost v 0 g && decide (some (vfl v g) = vfew v (v 8)) then (if s.isNone || decide ((vlw v g (vfl v g) (v 6)).1 < s.getD 0) then some (vlw v g (vfl v g) (v 6)).1 else s) else s
def vfs (v : zV) (k : Nat) : Option Nat := zFor k (vfsS v) none
theorem vfs_succ (v : zV) (k : Nat) : vfs v (k + 1) = vfsS v k (vfs v k) := rfl
def a_fewestSet (v : zV) : zA := (0, zo (vfs v (v 8)))
def vlsum (v : zV) (d k : Nat) : Nat := vsum (fun g => v (268 + 23 * g + 5) * vloss v d g) k
def vwsS (v : zV) (n : Nat) (s : Option Nat × Nat) : Option Nat × Nat := if nd v n 4 = 1 then s else if s.1.isNone || decide (s.2 < vlsum v (2 ^ n) (v 8)) then (some n, vlsum v (2 ^ n) (v 8)) else s
def vws (v : zV) (k : Nat) : Option Nat × Nat := zFor k (vwsS v) (none, 0)
theorem vws_succ (v : zV) (k : Nat) : vws v (k + 1) = vwsS v k (vws v k) := rfl
def a_worst (v : zV) : zA := (0, zo (vws v (v 6)).1)
def vzsum (v : zV) (z k : Nat) : Nat := zFor k (fun n a => if v (10 + 12 * n + 1) = z then a + vcnt v (v 8) n else a) 0
theorem vfew_lt {v : zV} (hW : zWF v) : ∀ k, k ≤ v 8 → ∀ m, vfew v k = some m → m ≤ 11 := by
  intro k
  induction k with
  | zero => intro _ m h; cases h
  | succ k ih =>
    intro hk m h
    rw [vfew_succ] at h
    split at h
    · cases h
      have h1 := vnav_le (v := v) (d := 0) (g := k)
      have h2 := (hW.sh (show k < v 8 by omega)).2
      unfold vfl
      omega
    · exact ih (by omega) m h
theorem vlw_lt {v : zV} {g m : Nat} : ∀ k, (vlw v g m k).1 < 2 ^ k := by
  intro k
  induction k with
  | zero => exact Nat.one_pos
  | succ k ih =>
    rw [vlw_succ, Nat.pow_succ]
    unfold vlwS
    split
    · omega
    · split
      · omega
      · dsimp only; omega
theorem vfs_lt {v : zV} (hW : zWF v) : ∀ k m, vfs v k = some m → m < 2 ^ 16 := by
  intro k
  induction k with
  | zero => intro m h; cases h
  | succ k ih =>
    intro m h
    rw [vfs_succ] at h
    unfold vfsS at h
    split at h
    · split at h
      · cases h
        exact Nat.lt_of_lt_of_le (vlw_lt _) (Nat.pow_le_pow_right (by decide) hW.nN)
      · exact ih m h
    · exact ih m h
theorem vlsum_le {v : zV} (hW : zWF v) (d : Nat) : ∀ k, k ≤ v 8 → vlsum v d k ≤ k * (9999 * 1000000000) := fun k hk => vsum_bd (fun i hi => hW.offer (show i < v 8 by omega))
theorem vws_lt {v : zV} (hW : zWF v) : ∀ k, (∀ m, (vws v k).1 = some m → m < k) ∧ (vws v k).2 ≤ 10 * (9999 * 1000000000) := by
  intro k
  induction k with
  | zero => exact ⟨(fun m h => nomatch h), Nat.zero_le _⟩
  | succ k ih =>
    rw [vws_succ]
    unfold vwsS
    split
    · exact ⟨fun m h => by have := ih.1 m h; omega, ih.2⟩
    · split
      · refine ⟨fun m h => by cases h; omega, ?_⟩
        have h1 := vlsum_le hW (2 ^ k) (v 8) (Nat.le_refl _)
        have h2 : v 8 * (9999 * 1000000000) ≤ 10 * (9999 * 1000000000) := Nat.mul_le_mul_right _ hW.gN
        exact Nat.le_trans h1 h2
      · exact ⟨fun m h => by have := ih.1 m h; omega, ih.2⟩
theorem jX10_zoneShards {v : zV} {x : Int32} {Q : Option Value → zM → Prop} {X : String → zM → Prop} {M : zM} (hA : zRA M 119 v) (hW : zWF v) (hd : M.1 118 4 = nI 0) (h : ∀ M', zQm M M' → M'.1 118 0 = nI (a_zoneShards v x).1 → Q (some (.int (a_zoneShards v x).2)) M') : zJ yX10_zoneShards cX10_zoneShards 4 (some .int) rX10_zoneShards Q X rX10_zoneShards.cells rX10_zoneShards.slots 0 (zEnt 4 [.ref 118, .int x]) [] M := by
  have h6 := hW.nN
  have h7 := hW.tN
  have h8 := hW.gN
  have h9 := hW.hN
  show zJ yX10_zoneShards cX10_zoneShards 4 (some .int) rX10_zoneShards Q X 0 0 0 [some (.ref 118), some (.int x), none, none] [] M
  refine zj_aload0 (n := 1) rfl dX10_zoneShards_0 ?_
  refine zj_iload1 (n := 2) rfl dX10_zoneShards_1 ?_
  refine zj_i2l (n := 3) rfl dX10_zoneShards_2 ?_
  refine zj_lconstN_0 (n := 4) rfl dX10_zoneShards_3 ?_
  refine zj_ldc2N (v := 9) (n := 7) rfl dX10_zoneShards_4 zc_X10_399 ?_
  refine zj_callS3 (n := 10) (a' := 0) (b' := 0) rfl dX10_zoneShards_7 zm_X10_62 (by decide) (Nat.le_of_ble_eq_true rfl) (Nat.le_of_ble_eq_true rfl) (Nat.le_of_ble_eq_true rfl) (Nat.le_of_ble_eq_true rfl) (jX10_inB (k := 9) (by decide) ?_)
  refine zj_callV1 (n := 13) (a' := 0) (b' := 0) rfl dX10_zoneShards_10 zm_X10_216 (by decide) (by decide) rfl (Nat.le_of_ble_eq_true rfl) (Nat.le_of_ble_eq_true rfl) (Nat.le_of_ble_eq_true rfl) (Nat.le_of_ble_eq_true rfl) (jX10_passesQ ?_)
  intro M1 hQ1 hF1 hL1 h118 ht1
  have hA1 := hQ1.ra hA
  have hd1 := hQ1.td hd
  refine zj_ifB_ne (n := 16) (tgt := 18) rfl dX10_zoneShards_13 (by decide) (fun c13 => ?_) (fun c13 => ?_)
  · obtain ⟨n, hn, rfl⟩ := (zin_iff (by omega)).mp c13
    refine zj_iconstN_0 (n := 19) rfl dX10_zoneShards_18 ?_
    refine zj_istore2 (n := 20) rfl dX10_zoneShards_19 rfl (Nat.le_of_ble_eq_true rfl) ?_
    refine zj_iconstN_0 (n := 21) rfl dX10_zoneShards_20 ?_
    refine zj_istore3 (n := 22) rfl dX10_zoneShards_21 rfl (Nat.le_of_ble_eq_true rfl) ?_
    refine zFor_rule (P := fun k (_ : Unit) => zJ yX10_zoneShards cX10_zoneShards 4 (some .int) rX10_zoneShards Q X 0 0 22 [some (.ref 118), some (.int (nI n)), some (.int (nI (vzsum v n k))), some (.int (nI k))] [] M1) (n := v 6) (f := fun _ s => s) (s0 := ()) ?_ ?_
    · intro k _ hk9 hk
      have hz := (hW.node hk9).2.1
      have hz : v (10 + 12 * k + 1) ≤ 9 := hz
      have es : vzsum v n (k + 1) = if v (10 + 12 * k + 1) = n then vzsum v n k + vcnt v (v 8) k else vzsum v n k := rfl
      refine zj_iload3 (n := 23) rfl dX10_zoneShards_22 ?_
      refine zj_aload0 (n := 24) rfl dX10_zoneShards_23 ?_
      refine zj_getr (n := 27) (q := 119) rfl dX10_zoneShards_24 zf_X10_17 rfl (by decide) (by decide) rfl ?_
      refine zj_bipushN (v := 6) (n := 29) rfl dX10_zoneShards_27 (by decide) ?_
      refine zj_ialoadN (e := v 6) (n := 30) rfl dX10_zoneShards_29 (by decide) (by decide) (by rw [show zLen 119 = 698 from rfl]; omega) (hA1.2.2 _ (by omega)) ?_
      refine zj_icmpN_ge (n := 33) (tgt := 63) rfl dX10_zoneShards_30 (by decide) (by omega) (by omega) (fun c30 => by omega) (fun c30 => ?_)
      refine zj_iload2 (n := 34) rfl dX10_zoneShards_33 ?_
      refine zj_aload0 (n := 35) rfl dX10_zoneShards_34 ?_
      refine zj_iload3 (n := 36) rfl dX10_zoneShards_35 ?_
      refine zj_iconstN_1 (n := 37) rfl dX10_zoneShards_36 ?_
      refine zj_callV2 (n := 40) (a' := 0) (b' := 0) rfl dX10_zoneShards_37 zm_X10_77 (by decide) (by decide) rfl (Nat.le_of_ble_eq_true rfl) (Nat.le_of_ble_eq_true rfl) (Nat.le_of_ble_eq_true rfl) (Nat.le_of_ble_eq_true rfl) (jX10_nodeValue (c := 1) hA1 (by omega) ?_)
      refine zj_iload1 (n := 41) rfl dX10_zoneShards_40 ?_
      refine zj_icmpN_ne (n := 44) (tgt := 54) rfl dX10_zoneShards_41 (by decide) (by omega) (by omega) (fun c41 => ?_) (fun c41 => ?_)
      · refine zj_iconstN_0 (n := 55) rfl dX10_zoneShards_54 ?_
        refine zj_iaddN (n := 56) rfl dX10_zoneShards_55 ?_
        refine zj_istore2 (n := 57) rfl dX10_zoneShards_56 rfl (Nat.le_of_ble_eq_true rfl) ?_
        refine zj_iincN3 (n := 60) rfl dX10_zoneShards_57 rfl (Nat.le_of_ble_eq_true rfl) ?_
        refine zj_goto (tgt := 22) dX10_zoneShards_60 (by decide) ?_
        rw [es, if_neg c41] at hk
        exact hk
      · refine zj_aload0 (n := 45) rfl dX10_zoneShards_44 ?_
        refine zj_iload3 (n := 46) rfl dX10_zoneShards_45 ?_
        refine zj_iconstN_0 (n := 47) rfl dX10_zoneShards_46 ?_
        refine zj_iconstN_0 (n := 48) rfl dX10_zoneShards_47 ?_
        refine zj_callV3 (n := 51) (a' := 0) (b' := 0) rfl dX10_zoneShards_48 zm_X10_87 (by decide) (by decide) rfl (Nat.le_of_ble_eq_true rfl) (Nat.le_of_ble_eq_true rfl) (Nat.le_of_ble_eq_true rfl) (Nat.le_of_ble_eq_true rfl) (jX10_shardsOn (more := 0) (few := 0) hA1 h8 (fun g hg => (hW.sh hg).2) (fun g s hg hs => by have := hW.holds hg hs; omega) (by decide) (by decide) (fun s hs => absurd hs (Nat.not_lt_zero s)) (by omega) ?_)
        refine zj_goto (tgt := 55) dX10_zoneShards_51 (by decide) ?_
        refine zj_iaddN (n := 56) rfl dX10_zoneShards_55 ?_
        refine zj_istore2 (n := 57) rfl dX10_zoneShards_56 rfl (Nat.le_of_ble_eq_true rfl) ?_
        refine zj_iincN3 (n := 60) rfl dX10_zoneShards_57 rfl (Nat.le_of_ble_eq_true rfl) ?_
        refine zj_goto (tgt := 22) dX10_zoneShards_60 (by decide) ?_
        rw [es, if_pos c41] at hk
        exact hk
    · skip
      refine zj_iload3 (n := 23) rfl dX10_zoneShards_22 ?_
      refine zj_aload0 (n := 24) rfl dX10_zoneShards_23 ?_
      refine zj_getr (n := 27) (q := 119) rfl dX10_zoneShards_24 zf_X10_17 rfl (by decide) (by decide) rfl ?_
      refine zj_bipushN (v := 6) (n := 29) rfl dX10_zoneShards_27 (by decide) ?_
      refine zj_ialoadN (e := v 6) (n := 30) rfl dX10_zoneShards_29 (by decide) (by decide) (by rw [show zLen 119 = 698 from rfl]; omega) (hA1.2.2 _ (by omega)) ?_
      refine zj_icmpN_ge (n := 33) (tgt := 63) rfl dX10_zoneShards_30 (by decide) (by omega) (by omega) (fun c30 => ?_) (fun c30 => by omega)
      refine zj_iload2 (n := 64) rfl dX10_zoneShards_63 ?_
      refine zj_ireturn dX10_zoneShards_64 rfl rfl ?_
      simp only [a_zoneShards, c13, if_true, if_false, Bool.false_eq_true, Bool.and_true, Bool.and_false, Bool.true_and, Bool.false_and, xn_at (show n < 2 ^ 31 by omega)] at h
      exact h M1 hQ1 (by rw [ht1, c13]; rfl)
  · refine zj_iconstN_0 (n := 17) rfl dX10_zoneShards_16 ?_
    refine zj_ireturn dX10_zoneShards_17 rfl rfl ?_
    simp only [a_zoneShards, c13, if_true, if_false, Bool.false_eq_true, Bool.and_true, Bool.and_false, Bool.true_and, Bool.false_and] at h
    exact h M1 hQ1 (by rw [ht1, c13]; rfl)
theorem jX10_bidder {v : zV} {x : Int32} {Q : Option Value → zM → Prop} {X : String → zM → Prop} {M : zM} (hA : zRA M 119 v) (hW : zWF v) (hd : M.1 118 4 = nI 0) (h : ∀ M', zQm M M' → M'.1 118 0 = nI (a_bidder v x).1 → Q (some (.int (a_bidder v x).2)) M') : zJ yX10_bidder cX10_bidder 2 (some .int) rX10_bidder Q X rX10_bidder.cells rX10_bidder.slots 0 (zEnt 2 [.ref 118, .int x]) [] M := by
  have h6 := hW.nN
  have h7 := hW.tN
  have h8 := hW.gN
  have h9 := hW.hN
  show zJ yX10_bidder cX10_bidder 2 (some .int) rX10_bidder Q X 0 0 0 [some (.ref 118), some (.int x)] [] M
  refine zj_aload0 (n := 1) rfl dX10_bidder_0 ?_
  refine zj_iload1 (n := 2) rfl dX10_bidder_1 ?_
  refine zj_if_lt (n := 5) (tgt := 9) rfl dX10_bidder_2 (by decide) (fun c2 => ?_) (fun c2 => ?_)
  · refine zj_iconstN_0 (n := 10) rfl dX10_bidder_9 ?_
    refine zj_callV1 (n := 13) (a' := 0) (b' := 0) rfl dX10_bidder_10 zm_X10_216 (by decide) (by decide) rfl (Nat.le_of_ble_eq_true rfl) (Nat.le_of_ble_eq_true rfl) (Nat.le_of_ble_eq_true rfl) (Nat.le_of_ble_eq_true rfl) (jX10_passesQ (p := false) ?_)
    intro M1 hQ1 hF1 hL1 h118 ht1
    have hA1 := hQ1.ra hA
    have hd1 := hQ1.td hd
    rw [show zb false = nI 0 from rfl]
    refine zj_ifN_ne (n := 16) (tgt := 18) rfl dX10_bidder_13 (by decide) (by omega) (fun h => absurd h (by decide)) (fun _ => ?_)
    refine zj_iconstN_0 (n := 17) rfl dX10_bidder_16 ?_
    refine zj_ireturn dX10_bidder_17 rfl rfl ?_
    unfold a_bidder at h
    rw [if_neg (Int32.not_le.mpr c2)] at h
    exact h M1 hQ1 (by rw [ht1]; rfl)
  · obtain ⟨n, hn, rfl⟩ := nI_of c2
    refine zj_iconstN_1 (n := 6) rfl dX10_bidder_5 ?_
    refine zj_goto (tgt := 10) dX10_bidder_6 (by decide) ?_
    refine zj_callV1 (n := 13) (a' := 0) (b' := 0) rfl dX10_bidder_10 zm_X10_216 (by decide) (by decide) rfl (Nat.le_of_ble_eq_true rfl) (Nat.le_of_ble_eq_true rfl) (Nat.le_of_ble_eq_true rfl) (Nat.le_of_ble_eq_true rfl) (jX10_passesQ (p := true) ?_)
    intro M1 hQ1 hF1 hL1 h118 ht1
    have hA1 := hQ1.ra hA
    have hd1 := hQ1.td hd
    rw [show zb true = nI 1 from rfl]
    refine zj_ifN_ne (n := 16) (tgt := 18) rfl dX10_bidder_13 (by decide) (by omega) (fun _ => ?_) (fun h => absurd h (by decide))
    refine zj_aload0 (n := 19) rfl dX10_bidder_18 ?_
    refine zj_callV0 (n := 22) (a' := 0) (b' := 0) rfl dX10_bidder_19 zm_X10_175 (by decide) (by decide) rfl (Nat.le_of_ble_eq_true rfl) (Nat.le_of_ble_eq_true rfl) (Nat.le_of_ble_eq_true rfl) (Nat.le_of_ble_eq_true rfl) (jX10_layBids hA1 hW hd1 (by decide) ?_)
    intro M2 hM2 hB2 hN2
    have hn10 := vord_le hW 0
    refine zj_iload1 (n := 23) rfl dX10_bidder_22 ?_
    refine zj_aload0 (n := 24) rfl dX10_bidder_23 ?_
    refine zj_getiN (e := (vord v 0).1) (n := 27) rfl dX10_bidder_24 zf_X10_161 rfl (by decide) (by decide) hB2.1 ?_
    refine zj_icmpN_ge (n := 30) (tgt := 39) rfl dX10_bidder_27 (by decide) (by omega) (by omega) (fun c27 => ?_) (fun c27 => ?_)
    · refine zj_iconst_m1 (n := 40) rfl dX10_bidder_39 ?_
      refine zj_ireturn dX10_bidder_40 rfl rfl ?_
      unfold a_bidder at h
      rw [if_pos (nI_pos' hn), xn_at hn, if_neg (by omega)] at h
      exact h M2 (hQ1.tr (zQm.ofSr hM2)) ((hM2.1 118 0 rfl).trans (by rw [ht1]; rfl))
    · refine zj_aload0 (n := 31) rfl dX10_bidder_30 ?_
      refine zj_getr (n := 34) (q := 122) rfl dX10_bidder_31 zf_X10_31 rfl (by decide) (by decide) rfl ?_
      refine zj_iload1 (n := 35) rfl dX10_bidder_34 ?_
      refine zj_ialoadN (e := (vord v 0).2 n) (n := 36) rfl dX10_bidder_35 (by decide) (by decide) (show n < 10 by omega) (hB2.2 n c27).1 ?_
      refine zj_goto (tgt := 40) dX10_bidder_36 (by decide) ?_
      refine zj_ireturn dX10_bidder_40 rfl rfl ?_
      unfold a_bidder at h
      rw [if_pos (nI_pos' hn), xn_at hn, if_pos c27] at h
      exact h M2 (hQ1.tr (zQm.ofSr hM2)) ((hM2.1 118 0 rfl).trans (by rw [ht1]; rfl))
theorem jX10_outcome {v : zV} {x : Int32} {z : Int32} {Q : Option Value → zM → Prop} {X : String → zM → Prop} {M : zM} (hA : zRA M 119 v) (hW : zWF v) (hd : M.1 118 4 = nI 0) (h : ∀ M', zQm M M' → M'.1 118 0 = nI (a_outcome v x z).1 → Q (some (.int (a_outcome v x z).2)) M') : zJ yX10_outcome cX10_outcome 4 (some .int) rX10_outcome Q X rX10_outcome.cells rX10_outcome.slots 0 (zEnt 4 [.ref 118, .int x, .int z]) [] M := by
  have h6 := hW.nN
  have h7 := hW.tN
  have h8 := hW.gN
  have h9 := hW.hN
  show zJ yX10_outcome cX10_outcome 4 (some .int) rX10_outcome Q X 0 0 0 [some (.ref 118), some (.int x), some (.int z), none] [] M
  refine zj_aload0 (n := 1) rfl dX10_outcome_0 ?_
  refine zj_aload0 (n := 2) rfl dX10_outcome_1 ?_
  refine zj_iload1 (n := 3) rfl dX10_outcome_2 ?_
  refine zj_callV1 (n := 6) (a' := 0) (b' := 0) rfl dX10_outcome_3 zm_X10_406 (by decide) (by decide) rfl (Nat.le_of_ble_eq_true rfl) (Nat.le_of_ble_eq_true rfl) (Nat.le_of_ble_eq_true rfl) (Nat.le_of_ble_eq_true rfl) (jX10_isGroup hA (by omega) ?_)
  refine zj_iload2 (n := 7) rfl dX10_outcome_6 ?_
  refine zj_i2l (n := 8) rfl dX10_outcome_7 ?_
  refine zj_lconstN_0 (n := 9) rfl dX10_outcome_8 ?_
  refine zj_lconstN_1 (n := 10) rfl dX10_outcome_9 ?_
  refine zj_callS3 (n := 13) (a' := 0) (b' := 0) rfl dX10_outcome_10 zm_X10_62 (by decide) (Nat.le_of_ble_eq_true rfl) (Nat.le_of_ble_eq_true rfl) (Nat.le_of_ble_eq_true rfl) (Nat.le_of_ble_eq_true rfl) (jX10_inB (k := 1) (by decide) ?_)
  refine zj_callV2 (n := 16) (a' := 0) (b' := 0) rfl dX10_outcome_13 zm_X10_395 (by decide) (by decide) rfl (Nat.le_of_ble_eq_true rfl) (Nat.le_of_ble_eq_true rfl) (Nat.le_of_ble_eq_true rfl) (Nat.le_of_ble_eq_true rfl) (jX10_passes2Q ?_)
  intro M1 hQ1 hF1 hL1 h118 ht1
  have hA1 := hQ1.ra hA
  have hd1 := hQ1.td hd
  refine zj_ifB_ne (n := 19) (tgt := 21) rfl dX10_outcome_16 (by decide) (fun c16 => ?_) (fun c16 => ?_)
  · obtain ⟨d1, d2⟩ := (Bool.and_eq_true _ _).mp c16
    obtain ⟨n, hn, rfl⟩ := (zin_iff (by omega)).mp d1
    obtain ⟨j, hj, rfl⟩ := (zin_iff (by decide)).mp d2
    refine zj_aload0 (n := 22) rfl dX10_outcome_21 ?_
    refine zj_callV0 (n := 25) (a' := 0) (b' := 0) rfl dX10_outcome_22 zm_X10_193 (by decide) (by decide) rfl (Nat.le_of_ble_eq_true rfl) (Nat.le_of_ble_eq_true rfl) (Nat.le_of_ble_eq_true rfl) (Nat.le_of_ble_eq_true rfl) (jX10_layRound hA1 hW hd1 (by decide) ?_)
    intro M2 hM2 hR2 hp2
    have hn10 := vord_le hW 0
    refine zj_iconstN_0 (n := 26) rfl dX10_outcome_25 ?_
    refine zj_istore3 (n := 27) rfl dX10_outcome_26 rfl (Nat.le_of_ble_eq_true rfl) ?_
    refine zFind_rule (P := fun k => zJ yX10_outcome cX10_outcome 4 (some .int) rX10_outcome Q X 0 0 27 [some (.ref 118), some (.int (nI n)), some (.int (nI j)), some (.int (nI k))] [] M2) (n := (vord v 0).1) (p := (fun k => decide ((vord v 0).2 k = n))) ?_ ?_
    · intro k hi_k hf_k hk_k
      refine zj_iload3 (n := 28) rfl dX10_outcome_27 ?_
      refine zj_aload0 (n := 29) rfl dX10_outcome_28 ?_
      refine zj_getiN (e := (vord v 0).1) (n := 32) rfl dX10_outcome_29 zf_X10_161 rfl (by decide) (by decide) hR2.1.1.1 ?_
      refine zj_icmpN_ge (n := 35) (tgt := 84) rfl dX10_outcome_32 (by decide) (by omega) (by omega) (fun c32 => by omega) (fun c32 => ?_)
      have hb9 := (vbidder hW (d := 0) hi_k).1
      refine zj_aload0 (n := 36) rfl dX10_outcome_35 ?_
      refine zj_getr (n := 39) (q := 122) rfl dX10_outcome_36 zf_X10_31 rfl (by decide) (by decide) rfl ?_
      refine zj_iload3 (n := 40) rfl dX10_outcome_39 ?_
      refine zj_ialoadN (e := (vord v 0).2 k) (n := 41) rfl dX10_outcome_40 (by decide) (by decide) (show k < 10 by omega) (hR2.1.1.2 k hi_k).1 ?_
      refine zj_iload1 (n := 42) rfl dX10_outcome_41 ?_
      refine zj_icmpN_ne (n := 45) (tgt := 78) rfl dX10_outcome_42 (by decide) (by omega) (by omega) (fun c42 => ?_) (fun c42 => ?_)
      · refine zj_iincN3 (n := 81) rfl dX10_outcome_78 rfl (Nat.le_of_ble_eq_true rfl) ?_
        refine zj_goto (tgt := 27) dX10_outcome_81 (by decide) ?_
        exact hk_k (decide_eq_false c42)
      · refine zj_iload2 (n := 46) rfl dX10_outcome_45 ?_
        refine zj_ifN_ne (n := 49) (tgt := 58) rfl dX10_outcome_46 (by decide) (by omega) (fun c46 => ?_) (fun c46 => ?_)
        · have hu9 : vunits v 0 k ≤ vnd v 0 k := (vsell_ok hW 0).2.1 k hi_k
          have hu8 := (vbidder hW (d := 0) hi_k).2.2.2.2.2.1
          refine zj_aload0 (n := 59) rfl dX10_outcome_58 ?_
          refine zj_getr (n := 62) (q := 125) rfl dX10_outcome_59 zf_X10_40 rfl (by decide) (by decide) rfl ?_
          refine zj_iload3 (n := 63) rfl dX10_outcome_62 ?_
          refine zj_ialoadN (e := vunits v 0 k) (n := 64) rfl dX10_outcome_63 (by decide) (by decide) (show k < 10 by omega) (show _ = nI (vunits v 0 k) from hR2.2.1 k hi_k) ?_
          refine zj_ifN_ne (n := 67) (tgt := 71) rfl dX10_outcome_64 (by decide) (by omega) (fun c64 => ?_) (fun c64 => ?_)
          · refine zj_aload0 (n := 72) rfl dX10_outcome_71 ?_
            refine zj_getr (n := 75) (q := 126) rfl dX10_outcome_72 zf_X10_43 rfl (by decide) (by decide) rfl ?_
            refine zj_iload3 (n := 76) rfl dX10_outcome_75 ?_
            refine zj_ialoadN (e := vprice v 0 k) (n := 77) rfl dX10_outcome_76 (by decide) (by decide) (show k < 10 by omega) (hp2 k hi_k) ?_
            refine zj_ireturn dX10_outcome_77 rfl rfl ?_
            simp only [a_outcome, d1, d2, if_true, if_false, Bool.false_eq_true, Bool.and_true, Bool.and_false, Bool.true_and, Bool.false_and, xn_at (show n < 2 ^ 31 by omega), xn_at (show j < 2 ^ 31 by omega)] at h
            have ef : zFst (vord v 0).1 (fun k => decide ((vord v 0).2 k = n)) = k := zFst_eq hi_k (decide_eq_true c42) hf_k
            unfold vout at h
            rw [ef, if_pos hi_k] at h
            rw [if_neg (by omega), if_neg (by omega)] at h
            exact h M2 (hQ1.tr (zQm.ofSr hM2)) ((hM2.1 118 0 rfl).trans (by rw [ht1, d1, d2]; rfl))
          · refine zj_iconstN_0 (n := 68) rfl dX10_outcome_67 ?_
            refine zj_goto (tgt := 77) dX10_outcome_68 (by decide) ?_
            refine zj_ireturn dX10_outcome_77 rfl rfl ?_
            simp only [a_outcome, d1, d2, if_true, if_false, Bool.false_eq_true, Bool.and_true, Bool.and_false, Bool.true_and, Bool.false_and, xn_at (show n < 2 ^ 31 by omega), xn_at (show j < 2 ^ 31 by omega)] at h
            have ef : zFst (vord v 0).1 (fun k => decide ((vord v 0).2 k = n)) = k := zFst_eq hi_k (decide_eq_true c42) hf_k
            unfold vout at h
            rw [ef, if_pos hi_k] at h
            rw [if_neg (by omega), if_pos c64] at h
            exact h M2 (hQ1.tr (zQm.ofSr hM2)) ((hM2.1 118 0 rfl).trans (by rw [ht1, d1, d2]; rfl))
        · refine zj_aload0 (n := 50) rfl dX10_outcome_49 ?_
          refine zj_getr (n := 53) (q := 125) rfl dX10_outcome_50 zf_X10_40 rfl (by decide) (by decide) rfl ?_
          refine zj_iload3 (n := 54) rfl dX10_outcome_53 ?_
          refine zj_ialoadN (e := vunits v 0 k) (n := 55) rfl dX10_outcome_54 (by decide) (by decide) (show k < 10 by omega) (show _ = nI (vunits v 0 k) from hR2.2.1 k hi_k) ?_
          refine zj_goto (tgt := 77) dX10_outcome_55 (by decide) ?_
          refine zj_ireturn dX10_outcome_77 rfl rfl ?_
          simp only [a_outcome, d1, d2, if_true, if_false, Bool.false_eq_true, Bool.and_true, Bool.and_false, Bool.true_and, Bool.false_and, xn_at (show n < 2 ^ 31 by omega), xn_at (show j < 2 ^ 31 by omega)] at h
          have ef : zFst (vord v 0).1 (fun k => decide ((vord v 0).2 k = n)) = k := zFst_eq hi_k (decide_eq_true c42) hf_k
          unfold vout at h
          rw [ef, if_pos hi_k] at h
          rw [if_pos c46] at h
          exact h M2 (hQ1.tr (zQm.ofSr hM2)) ((hM2.1 118 0 rfl).trans (by rw [ht1, d1, d2]; rfl))
    · intro hf_k
      refine zj_iload3 (n := 28) rfl dX10_outcome_27 ?_
      refine zj_aload0 (n := 29) rfl dX10_outcome_28 ?_
      refine zj_getiN (e := (vord v 0).1) (n := 32) rfl dX10_outcome_29 zf_X10_161 rfl (by decide) (by decide) hR2.1.1.1 ?_
      refine zj_icmpN_ge (n := 35) (tgt := 84) rfl dX10_outcome_32 (by decide) (by omega) (by omega) (fun c32 => ?_) (fun c32 => by omega)
      refine zj_iconstN_0 (n := 85) rfl dX10_outcome_84 ?_
      refine zj_ireturn dX10_outcome_85 rfl rfl ?_
      simp only [a_outcome, d1, d2, if_true, if_false, Bool.false_eq_true, Bool.and_true, Bool.and_false, Bool.true_and, Bool.false_and, xn_at (show n < 2 ^ 31 by omega), xn_at (show j < 2 ^ 31 by omega)] at h
      have ef : zFst (vord v 0).1 (fun k => decide ((vord v 0).2 k = n)) = (vord v 0).1 := zFst_none.mpr hf_k
      unfold vout at h
      rw [ef, if_neg (Nat.lt_irrefl _)] at h
      exact h M2 (hQ1.tr (zQm.ofSr hM2)) ((hM2.1 118 0 rfl).trans (by rw [ht1, d1, d2]; rfl))
  · refine zj_iconstN_0 (n := 20) rfl dX10_outcome_19 ?_
    refine zj_ireturn dX10_outcome_20 rfl rfl ?_
    cases d1 : zin x (v 8) with
    | false =>
      simp only [a_outcome, d1, if_true, if_false, Bool.false_eq_true, Bool.and_true, Bool.and_false, Bool.true_and, Bool.false_and] at h
      exact h M1 hQ1 (by rw [ht1, d1]; rfl)
    | true =>
      have d2 : zin z 2 = false := by rw [d1, Bool.true_and] at c16; exact c16
      simp only [a_outcome, d1, d2, if_true, if_false, Bool.false_eq_true, Bool.and_true, Bool.and_false, Bool.true_and, Bool.false_and] at h
      exact h M1 hQ1 (by rw [ht1, d1, d2]; rfl)
theorem jX10_lossWithout {v : zV} {x : Int32} {z : Int32} {Q : Option Value → zM → Prop} {X : String → zM → Prop} {M : zM} (hA : zRA M 119 v) (hW : zWF v) (hd : M.1 118 4 = nI 0) (h : ∀ M', zQm M M' → M'.1 118 0 = nI (a_lossWithout v x z).1 → Q (some (.int (a_lossWithout v x z).2)) M') : zJ yX10_lossWithout cX10_lossWithout 4 (some .int) rX10_lossWithout Q X rX10_lossWithout.cells rX10_lossWithout.slots 0 (zEnt 4 [.ref 118, .int x, .int z]) [] M := by
  have h6 := hW.nN
  have h7 := hW.tN
  have h8 := hW.gN
  have h9 := hW.hN
  show zJ yX10_lossWithout cX10_lossWithout 4 (some .int) rX10_lossWithout Q X 0 0 0 [some (.ref 118), some (.int x), some (.int z), none] [] M
  refine zj_aload0 (n := 1) rfl dX10_lossWithout_0 ?_
  refine zj_aload0 (n := 2) rfl dX10_lossWithout_1 ?_
  refine zj_iload1 (n := 3) rfl dX10_lossWithout_2 ?_
  refine zj_callV1 (n := 6) (a' := 0) (b' := 0) rfl dX10_lossWithout_3 zm_X10_406 (by decide) (by decide) rfl (Nat.le_of_ble_eq_true rfl) (Nat.le_of_ble_eq_true rfl) (Nat.le_of_ble_eq_true rfl) (Nat.le_of_ble_eq_true rfl) (jX10_isGroup hA (by omega) ?_)
  refine zj_ifB_eq (n := 9) (tgt := 21) rfl dX10_lossWithout_6 (by decide) (fun c6 => ?_) (fun c6 => ?_)
  · refine zj_iconstN_0 (n := 22) rfl dX10_lossWithout_21 ?_
    refine zj_callV1 (n := 25) (a' := 0) (b' := 0) rfl dX10_lossWithout_22 zm_X10_216 (by decide) (by decide) rfl (Nat.le_of_ble_eq_true rfl) (Nat.le_of_ble_eq_true rfl) (Nat.le_of_ble_eq_true rfl) (Nat.le_of_ble_eq_true rfl) (jX10_passesQ (p := false) ?_)
    intro M1 hQ1 hF1 hL1 h118 ht1
    have hA1 := hQ1.ra hA
    have hd1 := hQ1.td hd
    rw [show zb false = nI 0 from rfl]
    refine zj_ifN_ne (n := 28) (tgt := 30) rfl dX10_lossWithout_25 (by decide) (by omega) (fun h => absurd h (by decide)) (fun _ => ?_)
    refine zj_iconstN_0 (n := 29) rfl dX10_lossWithout_28 ?_
    refine zj_ireturn dX10_lossWithout_29 rfl rfl ?_
    simp only [a_lossWithout, c6, if_true, if_false, Bool.false_eq_true, Bool.and_true, Bool.and_false, Bool.true_and, Bool.false_and] at h
    exact h M1 hQ1 (by rw [ht1]; rfl)
  · obtain ⟨n, hn, rfl⟩ := (zin_iff (by omega)).mp c6
    refine zj_aload0 (n := 10) rfl dX10_lossWithout_9 ?_
    refine zj_iload2 (n := 11) rfl dX10_lossWithout_10 ?_
    refine zj_callV1 (n := 14) (a' := 0) (b' := 0) rfl dX10_lossWithout_11 zm_X10_390 (by decide) (by decide) rfl (Nat.le_of_ble_eq_true rfl) (Nat.le_of_ble_eq_true rfl) (Nat.le_of_ble_eq_true rfl) (Nat.le_of_ble_eq_true rfl) (jX10_isNode hA (by omega) ?_)
    refine zj_ifB_eq (n := 17) (tgt := 21) rfl dX10_lossWithout_14 (by decide) (fun c14 => ?_) (fun c14 => ?_)
    · refine zj_iconstN_0 (n := 22) rfl dX10_lossWithout_21 ?_
      refine zj_callV1 (n := 25) (a' := 0) (b' := 0) rfl dX10_lossWithout_22 zm_X10_216 (by decide) (by decide) rfl (Nat.le_of_ble_eq_true rfl) (Nat.le_of_ble_eq_true rfl) (Nat.le_of_ble_eq_true rfl) (Nat.le_of_ble_eq_true rfl) (jX10_passesQ (p := false) ?_)
      intro M1 hQ1 hF1 hL1 h118 ht1
      have hA1 := hQ1.ra hA
      have hd1 := hQ1.td hd
      rw [show zb false = nI 0 from rfl]
      refine zj_ifN_ne (n := 28) (tgt := 30) rfl dX10_lossWithout_25 (by decide) (by omega) (fun h => absurd h (by decide)) (fun _ => ?_)
      refine zj_iconstN_0 (n := 29) rfl dX10_lossWithout_28 ?_
      refine zj_ireturn dX10_lossWithout_29 rfl rfl ?_
      simp only [a_lossWithout, c6, c14, if_true, if_false, Bool.false_eq_true, Bool.and_true, Bool.and_false, Bool.true_and, Bool.false_and] at h
      exact h M1 hQ1 (by rw [ht1]; rfl)
    · obtain ⟨k, hk, rfl⟩ := (zin_iff (by omega)).mp c14
      refine zj_iconstN_1 (n := 18) rfl dX10_lossWithout_17 ?_
      refine zj_goto (tgt := 22) dX10_lossWithout_18 (by decide) ?_
      refine zj_callV1 (n := 25) (a' := 0) (b' := 0) rfl dX10_lossWithout_22 zm_X10_216 (by decide) (by decide) rfl (Nat.le_of_ble_eq_true rfl) (Nat.le_of_ble_eq_true rfl) (Nat.le_of_ble_eq_true rfl) (Nat.le_of_ble_eq_true rfl) (jX10_passesQ (p := true) ?_)
      intro M1 hQ1 hF1 hL1 h118 ht1
      have hA1 := hQ1.ra hA
      have hd1 := hQ1.td hd
      rw [show zb true = nI 1 from rfl]
      refine zj_ifN_ne (n := 28) (tgt := 30) rfl dX10_lossWithout_25 (by decide) (by omega) (fun _ => ?_) (fun h => absurd h (by decide))
      refine zj_aload0 (n := 31) rfl dX10_lossWithout_30 ?_
      refine zj_iconstN_1 (n := 32) rfl dX10_lossWithout_31 ?_
      refine zj_iload2 (n := 33) rfl dX10_lossWithout_32 ?_
      refine zj_ishlN1 (n := 34) rfl dX10_lossWithout_33 (by omega) ?_
      refine zj_puti (n := 37) rfl dX10_lossWithout_34 zp_X10_99 rfl (by decide) (by decide) ?_
      refine zj_aload0 (n := 38) rfl dX10_lossWithout_37 ?_
      refine zj_iload1 (n := 39) rfl dX10_lossWithout_38 ?_
      refine zj_callV1 (n := 42) (a' := 0) (b' := 0) rfl dX10_lossWithout_39 zm_X10_130 (by decide) (by decide) rfl (Nat.le_of_ble_eq_true rfl) (Nat.le_of_ble_eq_true rfl) (Nat.le_of_ble_eq_true rfl) (Nat.le_of_ble_eq_true rfl) (jX10_lossOf (d := 2 ^ k) (show zRA (zU M1.1 118 4 (nI (2 ^ k)), M1.2) 119 v from hA1.off (by decide)) hW (by dsimp only; exact zU_eq) (Nat.pow_lt_pow_right (by decide) (by omega)) hn ?_)
      intro L hL
      refine zj_istore3 (n := 43) rfl dX10_lossWithout_42 rfl (Nat.le_of_ble_eq_true rfl) ?_
      refine zj_aload0 (n := 44) rfl dX10_lossWithout_43 ?_
      refine zj_iconstN_0 (n := 45) rfl dX10_lossWithout_44 ?_
      refine zj_puti (n := 48) rfl dX10_lossWithout_45 zp_X10_99 rfl (by decide) (by decide) ?_
      refine zj_iload3 (n := 49) rfl dX10_lossWithout_48 ?_
      refine zj_ireturn dX10_lossWithout_49 rfl rfl ?_
      simp only [a_lossWithout, c6, c14, if_true, if_false, Bool.false_eq_true, Bool.and_true, Bool.and_false, Bool.true_and, Bool.false_and, xn_at (show n < 2 ^ 31 by omega), xn_at (show k < 2 ^ 31 by omega)] at h
      refine h _ ⟨fun a j hj => ?_, fun c j hc _ => ?_, ?_⟩ ?_
      · dsimp only
        by_cases e : a = 118 ∧ j = 4
        · obtain ⟨rfl, rfl⟩ := e
          rw [zU_eq]; exact hd.symm
        · have e2 : ∀ (f : Nat → Nat → Int32) (x : Int32), zU f 118 4 x a j = f a j := fun f x => by
            by_cases e3 : a = 118
            · subst e3; exact zU_nj (by omega)
            · exact zU_ne e3
          rw [e2, e2]; exact hQ1.1 a j hj
      · dsimp only
        rw [hL c hc]; rw [hL1]
      · exact hQ1.2.2
      · dsimp only
        rw [zU_nj (by decide), zU_nj (by decide), ht1]; rfl
