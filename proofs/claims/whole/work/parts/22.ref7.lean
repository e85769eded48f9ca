/-! THE REFERENCE, a round laid out -/
theorem jX10_grownPurse {w : Nat} {v : zV} {t : Nat} {Q : Option Value → zM → Prop} {X : String → zM → Prop} {M : zM} (hA : zRA M w v) (hW : zWF v) (ht : t < v 7) (h : Q (some (.int (nI (vgrown v t)))) M) : zJ yX10_grownPurse cX10_grownPurse 3 (some .int) rX10_grownPurse Q X rX10_grownPurse.cells rX10_grownPurse.slots 0 (zEnt 3 [.ref 118, .int (nI t)]) [] M := by
  obtain ⟨t0, t1, t2, t3⟩ := hW.ten ht
  have t0 : v (202 + 11 * t + 0) ≤ 999999 := t0
  have t1 : v (202 + 11 * t + 1) ≤ 999999 := t1
  have t2 : v (202 + 11 * t + 2) ≤ 9999999 := t2
  have ht6 := hW.tN
  show zJ yX10_grownPurse cX10_grownPurse 3 (some .int) rX10_grownPurse Q X 0 0 0 [some (.ref 118), some (.int (nI t)), none] [] M
  refine zj_aload0 (n := 1) rfl dX10_grownPurse_0 ?_
  refine zj_iload1 (n := 2) rfl dX10_grownPurse_1 ?_
  refine zj_iconst_2 (n := 3) rfl dX10_grownPurse_2 ?_
  refine zj_callV2 (n := 6) (a' := 0) (b' := 0) rfl dX10_grownPurse_3 zm_X10_167 (by decide) (by decide) rfl (Nat.le_of_ble_eq_true rfl) (Nat.le_of_ble_eq_true rfl) (Nat.le_of_ble_eq_true rfl) (Nat.le_of_ble_eq_true rfl) (jX10_tenantValue (c := 2) hA (by omega) ?_)
  refine zj_istore2 (n := 7) rfl dX10_grownPurse_6 rfl (Nat.le_of_ble_eq_true rfl) ?_
  refine zj_iload2 (n := 8) rfl dX10_grownPurse_7 ?_
  refine zj_aload0 (n := 9) rfl dX10_grownPurse_8 ?_
  refine zj_iload1 (n := 10) rfl dX10_grownPurse_9 ?_
  refine zj_iconst_1 (n := 11) rfl dX10_grownPurse_10 ?_
  refine zj_callV2 (n := 14) (a' := 0) (b' := 0) rfl dX10_grownPurse_11 zm_X10_167 (by decide) (by decide) rfl (Nat.le_of_ble_eq_true rfl) (Nat.le_of_ble_eq_true rfl) (Nat.le_of_ble_eq_true rfl) (Nat.le_of_ble_eq_true rfl) (jX10_tenantValue (c := 1) hA (by omega) ?_)
  refine zj_iload2 (n := 15) rfl dX10_grownPurse_14 ?_
  refine zj_aload0 (n := 16) rfl dX10_grownPurse_15 ?_
  refine zj_iload1 (n := 17) rfl dX10_grownPurse_16 ?_
  refine zj_iconst_0 (n := 18) rfl dX10_grownPurse_17 ?_
  refine zj_callV2 (n := 21) (a' := 0) (b' := 0) rfl dX10_grownPurse_18 zm_X10_167 (by decide) (by decide) rfl (Nat.le_of_ble_eq_true rfl) (Nat.le_of_ble_eq_true rfl) (Nat.le_of_ble_eq_true rfl) (Nat.le_of_ble_eq_true rfl) (jX10_tenantValue (c := 0) hA (by omega) ?_)
  refine zj_iadd (n := 22) rfl dX10_grownPurse_21 ?_
  refine zj_imin (n := 25) rfl dX10_grownPurse_22 zm_X10_170 (by decide) (Nat.le_of_ble_eq_true rfl) ?_
  refine zj_imax (n := 28) rfl dX10_grownPurse_25 zm_X10_136 (by decide) (Nat.le_of_ble_eq_true rfl) ?_
  exact zj_ireturn dX10_grownPurse_28 rfl rfl (zQi h (by rw [nI_add, zminI (by omega) (by omega), zmaxI (by omega) (by omega)]; rfl))
theorem jX10_payableAt {w : Nat} {v : zV} {d k : Nat} {u : Nat → Nat} {Q : Option Value → zM → Prop} {X : String → zM → Prop} {M : zM} (hA : zRA M w v) (hW : zWF v) (hB : zBv M (voffer v d) (vord v d)) (hk : k < (vord v d).1) (hu : ∀ i, i < k → M.1 125 i = nI (u i)) (hu2 : ∀ i, i < k → u i ≤ 7000) (hs : vspent v d u (vten v d k) k ≤ vgrown v (vten v d k)) (h : Q (some (.int (nI (vcanp v d u k)))) M) : zJ yX10_payableAt cX10_payableAt 6 (some .int) rX10_payableAt Q X rX10_payableAt.cells rX10_payableAt.slots 0 (zEnt 6 [.ref 118, .int (nI k)]) [] M := by
  obtain ⟨b1, b2, b3, b4, b5, b6, b7⟩ := vbidder hW hk
  have hn10 := vord_le hW d
  have hg8 := hW.gN
  have hv7 := hW.tN
  have hgr := vgrown_le hW b2
  have ec : (nI k).toNatClampNeg = k := nI_clamp (by omega)
  have eo : M.1 123 k = nI (voff v d k) := (hB.2 k hk).2
  show zJ yX10_payableAt cX10_payableAt 6 (some .int) rX10_payableAt Q X 0 0 0 [some (.ref 118), some (.int (nI k)), none, none, none, none] [] M
  refine zj_aload0 (n := 1) rfl dX10_payableAt_0 ?_
  refine zj_aload0 (n := 2) rfl dX10_payableAt_1 ?_
  refine zj_getr (n := 5) (q := 122) rfl dX10_payableAt_2 zf_X10_31 rfl (by decide) (by decide) rfl ?_
  refine zj_iload1 (n := 6) rfl dX10_payableAt_5 ?_
  refine zj_iaload (n := 7) rfl dX10_payableAt_6 (by decide) (by decide) (by rw [show zLen 122 = 10 from rfl]; exact zin_at (j := k) rfl (by omega) (by decide)) ?_
  refine zj_iconst_0 (n := 8) rfl dX10_payableAt_7 ?_
  rw [ec, (hB.2 k hk).1]
  refine zj_callV2 (n := 11) (a' := 0) (b' := 0) rfl dX10_payableAt_8 zm_X10_66 (by decide) (by decide) rfl (Nat.le_of_ble_eq_true rfl) (Nat.le_of_ble_eq_true rfl) (Nat.le_of_ble_eq_true rfl) (Nat.le_of_ble_eq_true rfl) (jX10_groupValue (c := 0) hA (by omega) ?_)
  refine zj_istore2 (n := 12) rfl dX10_payableAt_11 rfl (Nat.le_of_ble_eq_true rfl) ?_
  show zJ yX10_payableAt cX10_payableAt 6 (some .int) rX10_payableAt Q X 0 0 12 [some (.ref 118), some (.int (nI k)), some (.int (nI (vten v d k))), none, none, none] [] M
  refine zj_aload0 (n := 13) rfl dX10_payableAt_12 ?_
  refine zj_iload2 (n := 14) rfl dX10_payableAt_13 ?_
  refine zj_callV1 (n := 17) (a' := 0) (b' := 0) rfl dX10_payableAt_14 zm_X10_172 (by decide) (by decide) rfl (Nat.le_of_ble_eq_true rfl) (Nat.le_of_ble_eq_true rfl) (Nat.le_of_ble_eq_true rfl) (Nat.le_of_ble_eq_true rfl) (jX10_grownPurse hA hW b2 ?_)
  refine zj_i2l (n := 18) rfl dX10_payableAt_17 ?_
  rw [nI_l (by omega)]
  refine zj_lstore3 (n := 19) rfl dX10_payableAt_18 rfl (Nat.le_of_ble_eq_true rfl) ?_
  refine zj_iconst_0 (n := 20) rfl dX10_payableAt_19 ?_
  refine zj_istore5 (n := 22) rfl dX10_payableAt_20 rfl (Nat.le_of_ble_eq_true rfl) ?_
  refine zFor_rule (P := fun i (_ : Unit) => zJ yX10_payableAt cX10_payableAt 6 (some .int) rX10_payableAt Q X 0 0 22 [some (.ref 118), some (.int (nI k)), some (.int (nI (vten v d k))), some (.long (lN (vgrown v (vten v d k) - vspent v d u (vten v d k) i))), none, some (.int (nI i))] [] M) (n := k) (f := fun _ s => s) (s0 := ()) ?_ ?_
  · intro i _ hi hk_i
    obtain ⟨i1, i2, i3, i4, i5, i6, i7⟩ := vbidder hW (show i < (vord v d).1 by omega)
    have hsc := vspent_succ v d u (vten v d k) i
    have hmo := vspent_mono (v := v) (d := d) (t := vten v d k) (u := u) (show i + 1 ≤ k by omega)
    have hui := hu2 i hi
    refine zj_iload5 (n := 24) rfl dX10_payableAt_22 ?_
    refine zj_iload1 (n := 25) rfl dX10_payableAt_24 ?_
    refine zj_icmp_ge (n := 28) (tgt := 70) rfl dX10_payableAt_25 (by decide) (fun c25 => absurd c25 (nI_ge hi (by omega))) (fun c25 => ?_)
    refine zj_aload0 (n := 29) rfl dX10_payableAt_28 ?_
    refine zj_aload0 (n := 30) rfl dX10_payableAt_29 ?_
    refine zj_getr (n := 33) (q := 122) rfl dX10_payableAt_30 zf_X10_31 rfl (by decide) (by decide) rfl ?_
    refine zj_iload5 (n := 35) rfl dX10_payableAt_33 ?_
    refine zj_iaload (n := 36) rfl dX10_payableAt_35 (by decide) (by decide) (by rw [show zLen 122 = 10 from rfl]; exact zin_at (j := i) rfl (by omega) (by decide)) ?_
    refine zj_iconst_0 (n := 37) rfl dX10_payableAt_36 ?_
    rw [nI_clamp (show i < 2 ^ 31 by omega), (hB.2 i (by omega)).1]
    refine zj_callV2 (n := 40) (a' := 0) (b' := 0) rfl dX10_payableAt_37 zm_X10_66 (by decide) (by decide) rfl (Nat.le_of_ble_eq_true rfl) (Nat.le_of_ble_eq_true rfl) (Nat.le_of_ble_eq_true rfl) (Nat.le_of_ble_eq_true rfl) (jX10_groupValue (c := 0) hA (by omega) ?_)
    refine zj_iload2 (n := 41) rfl dX10_payableAt_40 ?_
    refine zj_icmp_ne (n := 44) (tgt := 64) rfl dX10_payableAt_41 (by decide) (fun c41 => ?_) (fun c41 => ?_)
    · refine zj_iinc5 (n := 67) rfl dX10_payableAt_64 rfl (zi_1 _) (Nat.le_of_ble_eq_true rfl) ?_
      refine zj_goto (tgt := 22) dX10_payableAt_67 (by decide) ?_
      have ne : ¬ vten v d i = vten v d k := fun q => c41 (by show nI (vten v d i) = _; rw [q])
      rw [if_neg ne] at hsc
      refine zj_sub (by simp only [zLe, eq_self, Value.int.injEq, and_true, true_and]; exact ⟨by rw [hsc], (nI_1 i).symm⟩) hk_i
    · refine zj_lload3 (n := 45) rfl dX10_payableAt_44 ?_
      refine zj_aload0 (n := 46) rfl dX10_payableAt_45 ?_
      refine zj_getr (n := 49) (q := 123) rfl dX10_payableAt_46 zf_X10_34 rfl (by decide) (by decide) rfl ?_
      refine zj_iload5 (n := 51) rfl dX10_payableAt_49 ?_
      refine zj_iaload (n := 52) rfl dX10_payableAt_51 (by decide) (by decide) (by rw [show zLen 123 = 10 from rfl]; exact zin_at (j := i) rfl (by omega) (by decide)) ?_
      refine zj_i2l (n := 53) rfl dX10_payableAt_52 ?_
      refine zj_aload0 (n := 54) rfl dX10_payableAt_53 ?_
      refine zj_getr (n := 57) (q := 125) rfl dX10_payableAt_54 zf_X10_40 rfl (by decide) (by decide) rfl ?_
      refine zj_iload5 (n := 59) rfl dX10_payableAt_57 ?_
      refine zj_iaload (n := 60) rfl dX10_payableAt_59 (by decide) (by decide) (by rw [show zLen 125 = 10 from rfl]; exact zin_at (j := i) rfl (by omega) (by decide)) ?_
      refine zj_i2l (n := 61) rfl dX10_payableAt_60 ?_
      refine zj_lmul (n := 62) rfl dX10_payableAt_61 ?_
      refine zj_lsub (n := 63) rfl dX10_payableAt_62 ?_
      refine zj_lstore3 (n := 64) rfl dX10_payableAt_63 rfl (Nat.le_of_ble_eq_true rfl) ?_
      refine zj_iinc5 (n := 67) rfl dX10_payableAt_64 rfl (zi_1 _) (Nat.le_of_ble_eq_true rfl) ?_
      refine zj_goto (tgt := 22) dX10_payableAt_67 (by decide) ?_
      have eq : vten v d i = vten v d k := (nI_eq (by omega) (by omega)).mp c41
      rw [if_pos eq] at hsc
      have eoi : M.1 123 i = nI (voff v d i) := (hB.2 i (by omega)).2
      have e1 : lN (vgrown v (vten v d k) - vspent v d u (vten v d k) i) - (M.1 123 (nI i).toNatClampNeg).toInt64 * (M.1 125 (nI i).toNatClampNeg).toInt64 = lN (vgrown v (vten v d k) - vspent v d u (vten v d k) (i + 1)) := by
        rw [nI_clamp (show i < 2 ^ 31 by omega), eoi, hu i hi, nI_l (by omega), nI_l (by omega), lN_mul, lN_sub (by omega), hsc]
        exact congrArg lN (by omega)
      refine zj_sub (by simp only [zLe, eq_self, Value.int.injEq, and_true, true_and]; exact ⟨by rw [← e1], (nI_1 i).symm⟩) hk_i
  · skip
    refine zj_iload5 (n := 24) rfl dX10_payableAt_22 ?_
    refine zj_iload1 (n := 25) rfl dX10_payableAt_24 ?_
    refine zj_icmp_ge (n := 28) (tgt := 70) rfl dX10_payableAt_25 (by decide) (fun c25 => ?_) (fun c25 => absurd c25 (fun q => q (nI_le (Nat.le_refl _) (by omega))))
    refine zj_lload3 (n := 71) rfl dX10_payableAt_70 ?_
    refine zj_aload0 (n := 72) rfl dX10_payableAt_71 ?_
    refine zj_getr (n := 75) (q := 123) rfl dX10_payableAt_72 zf_X10_34 rfl (by decide) (by decide) rfl ?_
    refine zj_iload1 (n := 76) rfl dX10_payableAt_75 ?_
    refine zj_iaload (n := 77) rfl dX10_payableAt_76 (by decide) (by decide) (by rw [show zLen 123 = 10 from rfl]; exact zin_at (j := k) rfl (by omega) (by decide)) ?_
    refine zj_i2l (n := 78) rfl dX10_payableAt_77 ?_
    refine zj_ldiv (n := 79) rfl dX10_payableAt_78 (by rw [ec, eo, nI_l (by omega), ← zl64]; exact fun q => absurd ((pk_lEQ (a := voff v d k) (b := 0) (by omega) (by decide)).mp q) (by omega)) ?_
    refine zj_l2i (n := 80) rfl dX10_payableAt_79 ?_
    exact zj_ireturn dX10_payableAt_80 rfl rfl (zQi h (by rw [ec, eo, nI_l (by omega), pk_lDiv (by omega) (by omega) (by omega), lN_i]; rfl))
theorem jX10_layRound {w : Nat} {v : zV} {d : Nat} {Q : Option Value → zM → Prop} {X : String → zM → Prop} {M : zM} (hA : zRA M w v) (hW : zWF v) (hd : M.1 118 4 = nI d) (hd2 : d < 2 ^ 16) (h : ∀ M', zSr M M' → zRd M' v d (vord v d).1 (vsell v d) → (∀ k, k < (vord v d).1 → M'.1 126 k = nI (vprice v d k)) → Q none M') : zJ yX10_layRound cX10_layRound 4 none rX10_layRound Q X rX10_layRound.cells rX10_layRound.slots 0 (zEnt 4 [.ref 118]) [] M := by
  have hn10 := vord_le hW d
  obtain ⟨w0, w1, w2, w3, w4, w5⟩ := hW
  show zJ yX10_layRound cX10_layRound 4 none rX10_layRound Q X 0 0 0 [some (.ref 118), none, none, none] [] M
  refine zj_aload0 (n := 1) rfl dX10_layRound_0 ?_
  refine zj_callV0 (n := 4) (a' := 0) (b' := 0) rfl dX10_layRound_1 zm_X10_175 (by decide) (by decide) rfl (Nat.le_of_ble_eq_true rfl) (Nat.le_of_ble_eq_true rfl) (Nat.le_of_ble_eq_true rfl) (Nat.le_of_ble_eq_true rfl) (jX10_layBids hA ⟨w0, w1, w2, w3, w4, w5⟩ hd hd2 ?_)
  intro M1 hM1 hB hN
  refine zj_aload0 (n := 5) rfl dX10_layRound_4 ?_
  refine zj_aload0 (n := 6) rfl dX10_layRound_5 ?_
  refine zj_getr (n := 9) (q := w) rfl dX10_layRound_6 zf_X10_24 rfl (by decide) (by decide) (hM1.ra hA).now ?_
  refine zj_iconst_2 (n := 10) rfl dX10_layRound_9 ?_
  refine zj_iaload (n := 11) rfl dX10_layRound_10 hA.2.1.lt hA.2.1.ty ((hM1.ra hA).in (x := 2) (j := 2) rfl (by decide)) ?_
  rw [(hM1.ra hA).at (x := 2) (j := 2) rfl (by decide)]
  refine zj_puti (n := 14) rfl dX10_layRound_11 zp_X10_178 rfl (by decide) (by decide) ?_
  refine zj_aload0 (n := 15) rfl dX10_layRound_14 ?_
  refine zj_aload0 (n := 16) rfl dX10_layRound_15 ?_
  refine zj_getr (n := 19) (q := w) rfl dX10_layRound_16 zf_X10_24 rfl (by decide) (by decide) (hM1.ra hA).now ?_
  refine zj_iconst_0 (n := 20) rfl dX10_layRound_19 ?_
  refine zj_iaload (n := 21) rfl dX10_layRound_20 hA.2.1.lt hA.2.1.ty ((hE.ra hA).in (x := 0) (j := 0) rfl (by decide)) ?_
  refine zj_aload0 (n := 22) rfl dX10_layRound_21 ?_
  refine zj_getr (n := 25) (q := w) rfl dX10_layRound_22 zf_X10_24 rfl (by decide) (by decide) (hM1.ra hA).now ?_
  refine zj_iconst_4 (n := 26) rfl dX10_layRound_25 ?_
  refine zj_iaload (n := 27) rfl dX10_layRound_26 hA.2.1.lt hA.2.1.ty ((hE.ra hA).in (x := 4) (j := 4) rfl (by decide)) ?_
  refine zj_iadd (n := 28) rfl dX10_layRound_27 ?_
  rw [(hE.ra hA).at (x := 0) (j := 0) rfl (by decide), (hE.ra hA).at (x := 4) (j := 4) rfl (by decide), nI_add]
  refine zj_puti (n := 31) rfl dX10_layRound_28 zp_X10_181 rfl (by decide) (by decide) ?_
  -- STOP31
