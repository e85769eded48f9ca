/-! THE REFERENCE, needs, offers, who bids -/
theorem vscan_lt {v : zV} {can fz : Nat → Bool} (h0 : 0 < v 6) : ∀ (k n : Nat) (any : Option Nat) (r : Nat), n < v 6 → (∀ b, any = some b → b < v 6) → vscan v can fz k n any = some r → r < v 6 := by
  intro k
  induction k with
  | zero => intro n any r hn ha h; exact ha r h
  | succ k ih =>
    intro n any r hn ha h
    rw [vscan] at h
    split at h
    · cases h; exact hn
    · refine ih _ _ r (vnext_lt h0) (fun b hb => ?_) h
      split at hb
      · cases hb; exact hn
      · exact ha b hb
theorem vplace_lt' {v : zV} {g many few p n : Nat} {but : Int32} (h0 : 0 < v 6) (h : vplace v g many few but p = some n) : n < v 6 := by
  obtain ⟨n0, hn0⟩ := vfrom_some (v := v) (p := p) h0
  unfold vplace at h
  rw [hn0] at h
  exact vscan_lt h0 _ _ none _ (vfrom_lt hn0) (fun b hb => nomatch hb) h
theorem vplace_lt {v : zV} {g many few p n : Nat} {but : Int32} (h : vplace v g many few but p = some n) : n < v 6 := by
  rcases Nat.eq_zero_or_pos (v 6) with e | e
  · unfold vplace at h
    rw [e] at h
    cases h
  · exact vplace_lt' e h
theorem jX10_costOf {w : Nat} {v : zV} {g : Nat} {Q : Option Value → zM → Prop} {X : String → zM → Prop} {M : zM} (hA : zRA M w v) (hg : g < 10) (h : Q (some (.int (nI (vcost v g)))) M) : zJ yX10_costOf cX10_costOf 2 (some .int) rX10_costOf Q X rX10_costOf.cells rX10_costOf.slots 0 (zEnt 2 [.ref 118, .int (nI g)]) [] M := by
  show zJ yX10_costOf cX10_costOf 2 (some .int) rX10_costOf Q X 0 0 0 [some (.ref 118), some (.int (nI g))] [] M
  refine zj_aload0 (n := 1) rfl dX10_costOf_0 ?_
  refine zj_iload1 (n := 2) rfl dX10_costOf_1 ?_
  refine zj_iconst_2 (n := 3) rfl dX10_costOf_2 ?_
  refine zj_callV2 (n := 6) (a' := 0) (b' := 0) rfl dX10_costOf_3 zm_X10_66 (by decide) (by decide) rfl (Nat.le_of_ble_eq_true rfl) (Nat.le_of_ble_eq_true rfl) (Nat.le_of_ble_eq_true rfl) (Nat.le_of_ble_eq_true rfl) (jX10_groupValue (c := 2) hA (by omega) ?_)
  refine zj_iconst_1 (n := 7) rfl dX10_costOf_6 ?_
  refine zj_iadd (n := 8) rfl dX10_costOf_7 ?_
  refine zj_aload0 (n := 9) rfl dX10_costOf_8 ?_
  refine zj_iload1 (n := 10) rfl dX10_costOf_9 ?_
  refine zj_iconst_4 (n := 11) rfl dX10_costOf_10 ?_
  refine zj_callV2 (n := 14) (a' := 0) (b' := 0) rfl dX10_costOf_11 zm_X10_66 (by decide) (by decide) rfl (Nat.le_of_ble_eq_true rfl) (Nat.le_of_ble_eq_true rfl) (Nat.le_of_ble_eq_true rfl) (Nat.le_of_ble_eq_true rfl) (jX10_groupValue (c := 4) hA (by omega) ?_)
  refine zj_imul (n := 15) rfl dX10_costOf_14 ?_
  exact zj_ireturn dX10_costOf_15 rfl rfl (zQi h (by rw [nI_1, pk_mul]; rfl))
theorem jX10_needOf {w : Nat} {v : zV} {g d : Nat} {Q : Option Value → zM → Prop} {X : String → zM → Prop} {M : zM} (hA : zRA M w v) (hW : zWF v) (hd : M.1 118 4 = nI d) (hd2 : d < 2 ^ 16) (hg : g < v 8) (h : Q (some (.int (nI (vneed v d g)))) M) : zJ yX10_needOf cX10_needOf 2 (some .int) rX10_needOf Q X rX10_needOf.cells rX10_needOf.slots 0 (zEnt 2 [.ref 118, .int (nI g)]) [] M := by
  obtain ⟨g10, gsh, ghol, gst, gzo⟩ := hW.gh hg
  have h231 : d < 2 ^ 31 := by omega
  have hne := vneed_le hW (d := d) hg
  have hpr := hW.grp hg
  show zJ yX10_needOf cX10_needOf 2 (some .int) rX10_needOf Q X 0 0 0 [some (.ref 118), some (.int (nI g))] [] M
  refine zj_iconst_0 (n := 1) rfl dX10_needOf_0 ?_
  refine zj_aload0 (n := 2) rfl dX10_needOf_1 ?_
  refine zj_iload1 (n := 3) rfl dX10_needOf_2 ?_
  refine zj_callV1 (n := 6) (a' := 0) (b' := 0) rfl dX10_needOf_3 zm_X10_109 (by decide) (by decide) rfl (Nat.le_of_ble_eq_true rfl) (Nat.le_of_ble_eq_true rfl) (Nat.le_of_ble_eq_true rfl) (Nat.le_of_ble_eq_true rfl) (jX10_missingSet hA hd h231 g10 gsh ghol gst ?_)
  refine zj_callS1 (n := 9) (a' := 0) (b' := 0) rfl dX10_needOf_6 zm_X10_112 (by decide) (Nat.le_of_ble_eq_true rfl) (Nat.le_of_ble_eq_true rfl) (Nat.le_of_ble_eq_true rfl) (Nat.le_of_ble_eq_true rfl) (jX10_bitCount (vmiss_lt (by omega)) ?_)
  refine zj_aload0 (n := 10) rfl dX10_needOf_9 ?_
  refine zj_iload1 (n := 11) rfl dX10_needOf_10 ?_
  refine zj_callV1 (n := 14) (a' := 0) (b' := 0) rfl dX10_needOf_11 zm_X10_133 (by decide) (by decide) rfl (Nat.le_of_ble_eq_true rfl) (Nat.le_of_ble_eq_true rfl) (Nat.le_of_ble_eq_true rfl) (Nat.le_of_ble_eq_true rfl) (jX10_costOf hA g10 ?_)
  refine zj_imul (n := 15) rfl dX10_needOf_14 ?_
  refine zj_aload0 (n := 16) rfl dX10_needOf_15 ?_
  refine zj_iload1 (n := 17) rfl dX10_needOf_16 ?_
  refine zj_bipush (v := 6) (n := 19) rfl dX10_needOf_17 (by decide) ?_
  refine zj_callV2 (n := 22) (a' := 0) (b' := 0) rfl dX10_needOf_19 zm_X10_66 (by decide) (by decide) rfl (Nat.le_of_ble_eq_true rfl) (Nat.le_of_ble_eq_true rfl) (Nat.le_of_ble_eq_true rfl) (Nat.le_of_ble_eq_true rfl) (jX10_groupValue (c := 6) hA (by omega) ?_)
  refine zj_isub (n := 23) rfl dX10_needOf_22 ?_
  refine zj_imax (n := 26) rfl dX10_needOf_23 zm_X10_136 (by decide) (Nat.le_of_ble_eq_true rfl) ?_
  exact zj_ireturn dX10_needOf_26 rfl rfl (zQi h (by rw [vmiss_cnt (by omega), pk_mul]; exact (zmax0 (b := gp v g 6) (by omega) (by omega)).symm))
theorem jX10_offerOf {w : Nat} {v : zV} {g d : Nat} {Q : Option Value → zM → Prop} {X : String → zM → Prop} {M : zM} (hA : zRA M w v) (hW : zWF v) (hd : M.1 118 4 = nI d) (hd2 : d < 2 ^ 16) (hg : g < v 8) (h : ∀ L, (∀ a, a ≠ 121 → L a = M.2.1 a) → Q (some (.int (nI (voffer v d g)))) (M.1, L, M.2.2)) : zJ yX10_offerOf cX10_offerOf 2 (some .int) rX10_offerOf Q X rX10_offerOf.cells rX10_offerOf.slots 0 (zEnt 2 [.ref 118, .int (nI g)]) [] M := by
  obtain ⟨g10, gsh, ghol, gst, gzo⟩ := hW.gh hg
  have h231 : d < 2 ^ 31 := by omega
  have hof := hW.offer (d := d) hg
  have hlo := vloss_le (d := d) (hW.risk hg)
  have hpr := hW.grp hg
  show zJ yX10_offerOf cX10_offerOf 2 (some .int) rX10_offerOf Q X 0 0 0 [some (.ref 118), some (.int (nI g))] [] M
  refine zj_ldc2 (n := 3) rfl dX10_offerOf_0 zc_X10_141 ?_
  refine zj_aload0 (n := 4) rfl dX10_offerOf_3 ?_
  refine zj_iload1 (n := 5) rfl dX10_offerOf_4 ?_
  refine zj_iconst_5 (n := 6) rfl dX10_offerOf_5 ?_
  refine zj_callV2 (n := 9) (a' := 0) (b' := 0) rfl dX10_offerOf_6 zm_X10_66 (by decide) (by decide) rfl (Nat.le_of_ble_eq_true rfl) (Nat.le_of_ble_eq_true rfl) (Nat.le_of_ble_eq_true rfl) (Nat.le_of_ble_eq_true rfl) (jX10_groupValue (c := 5) hA (by omega) ?_)
  refine zj_i2l (n := 10) rfl dX10_offerOf_9 ?_
  refine zj_aload0 (n := 11) rfl dX10_offerOf_10 ?_
  refine zj_iload1 (n := 12) rfl dX10_offerOf_11 ?_
  refine zj_callV1 (n := 15) (a' := 0) (b' := 0) rfl dX10_offerOf_12 zm_X10_130 (by decide) (by decide) rfl (Nat.le_of_ble_eq_true rfl) (Nat.le_of_ble_eq_true rfl) (Nat.le_of_ble_eq_true rfl) (Nat.le_of_ble_eq_true rfl) (jX10_lossOf hA hW hd hd2 hg ?_)
  intro L hL
  refine zj_i2l (n := 16) rfl dX10_offerOf_15 ?_
  refine zj_lmul (n := 17) rfl dX10_offerOf_16 ?_
  refine zj_ldc2 (n := 20) rfl dX10_offerOf_17 zc_X10_143 ?_
  refine zj_ldiv (n := 21) rfl dX10_offerOf_20 (by decide) ?_
  refine zj_lmin (n := 24) rfl dX10_offerOf_21 zm_X10_145 (by decide) (Nat.le_of_ble_eq_true rfl) ?_
  refine zj_l2i (n := 25) rfl dX10_offerOf_24 ?_
  exact zj_ireturn dX10_offerOf_25 rfl rfl (zQi (h _ hL) (by rw [nI_l (n := gp v g 5) (by omega), nI_l (n := vloss v d g) (by omega), lN_mul, zl64, zl64, pk_lDiv (by omega) (by decide) (by decide), zminL (by decide) (Nat.lt_of_le_of_lt (Nat.div_le_self _ _) (by omega)), lN_i]; rfl))
theorem jX10_isBidding {w : Nat} {v : zV} {g d : Nat} {Q : Option Value → zM → Prop} {X : String → zM → Prop} {M : zM} (hA : zRA M w v) (hW : zWF v) (hd : M.1 118 4 = nI d) (hd2 : d < 2 ^ 16) (hg : g < v 8) (h : ∀ L, (∀ a, a ≠ 121 → L a = M.2.1 a) → Q (some (.int (zb (vbid v d g)))) (M.1, L, M.2.2)) : zJ yX10_isBidding cX10_isBidding 2 (some .boolean) rX10_isBidding Q X rX10_isBidding.cells rX10_isBidding.slots 0 (zEnt 2 [.ref 118, .int (nI g)]) [] M := by
  obtain ⟨g10, gsh, ghol, gst, gzo⟩ := hW.gh hg
  have h231 : d < 2 ^ 31 := by omega
  have hne := (vneed_le hW (d := d) hg).1
  have hof := voffer_le v d g
  have hr2 : v 2 ≤ 9999 := hW.2.2.1
  show zJ yX10_isBidding cX10_isBidding 2 (some .boolean) rX10_isBidding Q X 0 0 0 [some (.ref 118), some (.int (nI g))] [] M
  refine zj_aload0 (n := 1) rfl dX10_isBidding_0 ?_
  refine zj_iload1 (n := 2) rfl dX10_isBidding_1 ?_
  refine zj_callV1 (n := 5) (a' := 0) (b' := 0) rfl dX10_isBidding_2 zm_X10_149 (by decide) (by decide) rfl (Nat.le_of_ble_eq_true rfl) (Nat.le_of_ble_eq_true rfl) (Nat.le_of_ble_eq_true rfl) (Nat.le_of_ble_eq_true rfl) (jX10_isDamaged hA hW hd hd2 hg ?_)
  refine zj_if_eq (n := 8) (tgt := 38) rfl dX10_isBidding_5 (by decide) (fun c5 => ?_) (fun c5 => ?_)
  · refine zj_iconst_0 (n := 39) rfl dX10_isBidding_38 ?_
    exact zj_ireturn dX10_isBidding_39 rfl rfl (zQi (h M.2.1 (fun _ _ => rfl)) (zb_ff (by simp only [zb_eq0] at c5; simp [vbid, c5])))
  · simp only [zb_eq0, Bool.not_eq_false] at c5
    refine zj_aload0 (n := 9) rfl dX10_isBidding_8 ?_
    refine zj_iload1 (n := 10) rfl dX10_isBidding_9 ?_
    refine zj_callV1 (n := 13) (a' := 0) (b' := 0) rfl dX10_isBidding_10 zm_X10_121 (by decide) (by decide) rfl (Nat.le_of_ble_eq_true rfl) (Nat.le_of_ble_eq_true rfl) (Nat.le_of_ble_eq_true rfl) (Nat.le_of_ble_eq_true rfl) (jX10_isLost hA hW hd hd2 hg ?_)
    refine zj_if_ne (n := 16) (tgt := 38) rfl dX10_isBidding_13 (by decide) (fun c13 => ?_) (fun c13 => ?_)
    · refine zj_iconst_0 (n := 39) rfl dX10_isBidding_38 ?_
      exact zj_ireturn dX10_isBidding_39 rfl rfl (zQi (h M.2.1 (fun _ _ => rfl)) (zb_ff (by simp only [zb_eq0, Bool.not_eq_false] at c13; simp [vbid, c13])))
    · simp only [zb_eq0, Bool.not_eq_false] at c13
      refine zj_aload0 (n := 17) rfl dX10_isBidding_16 ?_
      refine zj_iload1 (n := 18) rfl dX10_isBidding_17 ?_
      refine zj_callV1 (n := 21) (a' := 0) (b' := 0) rfl dX10_isBidding_18 zm_X10_152 (by decide) (by decide) rfl (Nat.le_of_ble_eq_true rfl) (Nat.le_of_ble_eq_true rfl) (Nat.le_of_ble_eq_true rfl) (Nat.le_of_ble_eq_true rfl) (jX10_needOf hA hW hd hd2 hg ?_)
      refine zj_if_eq (n := 24) (tgt := 38) rfl dX10_isBidding_21 (by decide) (fun c21 => ?_) (fun c21 => ?_)
      · refine zj_iconst_0 (n := 39) rfl dX10_isBidding_38 ?_
        exact zj_ireturn dX10_isBidding_39 rfl rfl (zQi (h M.2.1 (fun _ _ => rfl)) (zb_ff (by rw [← nI_zero, nI_eq (by omega) (by decide)] at c21; simp [vbid, c21])))
      · refine zj_aload0 (n := 25) rfl dX10_isBidding_24 ?_
        refine zj_iload1 (n := 26) rfl dX10_isBidding_25 ?_
        refine zj_aload0 (n := 27) rfl dX10_isBidding_26 ?_
        refine zj_iload1 (n := 28) rfl dX10_isBidding_27 ?_
        refine zj_callV1 (n := 31) (a' := 0) (b' := 0) rfl dX10_isBidding_28 zm_X10_118 (by decide) (by decide) rfl (Nat.le_of_ble_eq_true rfl) (Nat.le_of_ble_eq_true rfl) (Nat.le_of_ble_eq_true rfl) (Nat.le_of_ble_eq_true rfl) (jX10_firstMissing hA hW hd hd2 hg ?_)
        refine zj_eq rfl (st' := .int (nI (vfm v d g)) :: .int (nI g) :: .ref 118 :: []) (by rw [c5]; rfl) rfl ?_
        refine zj_callV2 (n := 34) (a' := 0) (b' := 0) rfl dX10_isBidding_31 zm_X10_155 (by decide) (by decide) rfl (Nat.le_of_ble_eq_true rfl) (Nat.le_of_ble_eq_true rfl) (Nat.le_of_ble_eq_true rfl) (Nat.le_of_ble_eq_true rfl) (jX10_placeMissing hA hW hg (vfm_lt c5) ?_)
        refine zj_iconst_m1 (n := 35) rfl dX10_isBidding_34 ?_
        refine zj_icmp_ne (n := 38) (tgt := 40) rfl dX10_isBidding_35 (by decide) (fun c35 => ?_) (fun c35 => ?_)
        · refine zj_aload0 (n := 41) rfl dX10_isBidding_40 ?_
          refine zj_iload1 (n := 42) rfl dX10_isBidding_41 ?_
          refine zj_callV1 (n := 45) (a' := 0) (b' := 0) rfl dX10_isBidding_42 zm_X10_158 (by decide) (by decide) rfl (Nat.le_of_ble_eq_true rfl) (Nat.le_of_ble_eq_true rfl) (Nat.le_of_ble_eq_true rfl) (Nat.le_of_ble_eq_true rfl) (jX10_offerOf hA hW hd hd2 hg ?_)
          intro L hL
          refine zj_iconst_1 (n := 46) rfl dX10_isBidding_45 ?_
          refine zj_aload0 (n := 47) rfl dX10_isBidding_46 ?_
          refine zj_getr (n := 50) (q := w) rfl dX10_isBidding_47 zf_X10_24 rfl (by decide) (by decide) hA.now ?_
          refine zj_iconst_2 (n := 51) rfl dX10_isBidding_50 ?_
          refine zj_iaload (n := 52) rfl dX10_isBidding_51 hA.2.1.lt hA.2.1.ty (hA.in (x := 2) (j := 2) rfl (by decide)) ?_
          refine zj_imax (n := 55) rfl dX10_isBidding_52 zm_X10_136 (by decide) (Nat.le_of_ble_eq_true rfl) ?_
          refine zj_icmp_lt (n := 58) (tgt := 62) rfl dX10_isBidding_55 (by decide) (fun c55 => ?_) (fun c55 => ?_)
          · refine zj_iconst_0 (n := 63) rfl dX10_isBidding_62 ?_
            exact zj_ireturn dX10_isBidding_63 rfl rfl (zQi (h _ hL) (by rw [hA.at (x := 2) (j := 2) rfl (by decide), ← nI_one, zmaxI (by decide) (by omega)] at c55; have e34 : (vpm v g (vfm v d g)).isSome = true := (by obtain ⟨n, hn⟩ := zo_some c35; rw [hn]; rfl); have e21 : ¬ vneed v d g = 0 := (fun q => c21 (by rw [q]; rfl)); first | exact zb_tt (by have e55 : max 1 (v 2) ≤ voffer v d g := (by by_cases q : max 1 (v 2) ≤ voffer v d g; exact q; exact absurd (nI_lt (by omega) (by omega)) c55); simp only [vbid, c5, c13, e21, e34, e55]; rfl) | exact zb_ff (by have e55 : ¬ max 1 (v 2) ≤ voffer v d g := (fun q => absurd c55 (nI_nlt q (by omega))); simp [vbid, e55])))
          · refine zj_iconst_1 (n := 59) rfl dX10_isBidding_58 ?_
            refine zj_goto (tgt := 63) dX10_isBidding_59 (by decide) ?_
            exact zj_ireturn dX10_isBidding_63 rfl rfl (zQi (h _ hL) (by rw [hA.at (x := 2) (j := 2) rfl (by decide), ← nI_one, zmaxI (by decide) (by omega)] at c55; have e34 : (vpm v g (vfm v d g)).isSome = true := (by obtain ⟨n, hn⟩ := zo_some c35; rw [hn]; rfl); have e21 : ¬ vneed v d g = 0 := (fun q => c21 (by rw [q]; rfl)); first | exact zb_tt (by have e55 : max 1 (v 2) ≤ voffer v d g := (by by_cases q : max 1 (v 2) ≤ voffer v d g; exact q; exact absurd (nI_lt (by omega) (by omega)) c55); simp only [vbid, c5, c13, e21, e34, e55]; rfl) | exact zb_ff (by have e55 : ¬ max 1 (v 2) ≤ voffer v d g := (fun q => absurd c55 (nI_nlt q (by omega))); simp [vbid, e55])))
        · refine zj_iconst_0 (n := 39) rfl dX10_isBidding_38 ?_
          exact zj_ireturn dX10_isBidding_39 rfl rfl (zQi (h M.2.1 (fun _ _ => rfl)) (zb_ff (by have e := (zo_none (fun n hn => by have := vplace_lt hn; have := hW.nN; omega)).mp c35; simp [vbid, e])))
