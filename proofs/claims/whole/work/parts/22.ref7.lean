/-! THE REFERENCE, a round laid out -/
theorem zU_eq {α : Type} {f : Nat → Nat → α} {k j : Nat} {v : α} : zU f k j v k j = v := by
  rw [zU_at]; exact if_pos rfl
theorem zU_ne {α : Type} {f : Nat → Nat → α} {k j a b : Nat} {v : α} (h : a ≠ k) : zU f k j v a b = f a b := congrFun (zU_off h) b
theorem zU_nj {α : Type} {f : Nat → Nat → α} {k j a b : Nat} {v : α} (h : b ≠ j) : zU f k j v a b = f a b := by
  unfold zU
  split
  · exact if_neg h
  · rfl
theorem zj_gen {y : MethodName} {cc : ByteArray} {nL : Nat} {ret : Option FieldType} {R : Room} {Q : Option Value → zM → Prop} {X : String → zM → Prop} {a b pc : Nat} {l : List (Option Value)} {st : List Value} {M : zM} (P : zM → Prop) (h : P M) (k : ∀ M', P M' → zJ y cc nL ret R Q X a b pc l st M') : zJ y cc nL ret R Q X a b pc l st M := k M h
theorem jX10_grownPurse {w : Nat} {v : zV} {t : Nat} {Q : Option Value → zM → Prop} {X : String → zM → Prop} {M : zM} (hA : zRA M w v) (hW : zWF v) (ht : t < v 7) (h : Q (some (.int (nI (vgrown v t)))) M) : zJ yX10_grownPurse cX10_grownPurse 3 (some .int) rX10_grownPurse Q X rX10_grownPurse.cells rX10_grownPurse.slots 0 (zEnt 3 [.ref 118, .int (nI t)]) [] M := by
  obtain ⟨t0, t1, t2, t3⟩ := hW.ten ht
  have t0 : v (202 + 11 * t + 0) ≤ 999999 := t0
  have t1 : v (202 + 11 * t + 1) ≤ 999999 := t1
  have t2 : v (202 + 11 * t + 2) ≤ 9999999 := t2
  have ht6 := hW.tN
  show zJ yX10_grownPurse cX10_grownPurse 3 (some .int) rX10_grownPurse Q X 0 0 0 [some (.ref 118), some (.int (nI t)), none] [] M
  refine zj_aload0 (n := 1) rfl dX10_grownPurse_0 ?_
  refine zj_iload1 (n := 2) rfl dX10_grownPurse_1 ?_
  refine zj_iconstN_2 (n := 3) rfl dX10_grownPurse_2 ?_
  refine zj_callV2 (n := 6) (a' := 0) (b' := 0) rfl dX10_grownPurse_3 zm_X10_167 (by decide) (by decide) rfl (Nat.le_of_ble_eq_true rfl) (Nat.le_of_ble_eq_true rfl) (Nat.le_of_ble_eq_true rfl) (Nat.le_of_ble_eq_true rfl) (jX10_tenantValue (c := 2) hA (by omega) ?_)
  refine zj_istore2 (n := 7) rfl dX10_grownPurse_6 rfl (Nat.le_of_ble_eq_true rfl) ?_
  refine zj_iload2 (n := 8) rfl dX10_grownPurse_7 ?_
  refine zj_aload0 (n := 9) rfl dX10_grownPurse_8 ?_
  refine zj_iload1 (n := 10) rfl dX10_grownPurse_9 ?_
  refine zj_iconstN_1 (n := 11) rfl dX10_grownPurse_10 ?_
  refine zj_callV2 (n := 14) (a' := 0) (b' := 0) rfl dX10_grownPurse_11 zm_X10_167 (by decide) (by decide) rfl (Nat.le_of_ble_eq_true rfl) (Nat.le_of_ble_eq_true rfl) (Nat.le_of_ble_eq_true rfl) (Nat.le_of_ble_eq_true rfl) (jX10_tenantValue (c := 1) hA (by omega) ?_)
  refine zj_iload2 (n := 15) rfl dX10_grownPurse_14 ?_
  refine zj_aload0 (n := 16) rfl dX10_grownPurse_15 ?_
  refine zj_iload1 (n := 17) rfl dX10_grownPurse_16 ?_
  refine zj_iconstN_0 (n := 18) rfl dX10_grownPurse_17 ?_
  refine zj_callV2 (n := 21) (a' := 0) (b' := 0) rfl dX10_grownPurse_18 zm_X10_167 (by decide) (by decide) rfl (Nat.le_of_ble_eq_true rfl) (Nat.le_of_ble_eq_true rfl) (Nat.le_of_ble_eq_true rfl) (Nat.le_of_ble_eq_true rfl) (jX10_tenantValue (c := 0) hA (by omega) ?_)
  refine zj_iaddN (n := 22) rfl dX10_grownPurse_21 ?_
  refine zj_iminN (n := 25) rfl dX10_grownPurse_22 zm_X10_170 (by decide) (Nat.le_of_ble_eq_true rfl) (by omega) (by omega) ?_
  refine zj_imaxN (n := 28) rfl dX10_grownPurse_25 zm_X10_136 (by decide) (Nat.le_of_ble_eq_true rfl) (by omega) (by omega) ?_
  exact zj_ireturn dX10_grownPurse_28 rfl rfl h
theorem jX10_payableAt {w : Nat} {v : zV} {d k : Nat} {u : Nat → Nat} {Q : Option Value → zM → Prop} {X : String → zM → Prop} {M : zM} (hA : zRA M w v) (hW : zWF v) (hB : zBv M (voffer v d) (vord v d)) (hk : k < (vord v d).1) (hu : ∀ i, i < k → M.1 125 i = nI (u i)) (hu2 : ∀ i, i < k → u i ≤ 7000) (hs : vspent v d u (vten v d k) k ≤ vgrown v (vten v d k)) (h : Q (some (.int (nI (vcanp v d u k)))) M) : zJ yX10_payableAt cX10_payableAt 6 (some .int) rX10_payableAt Q X rX10_payableAt.cells rX10_payableAt.slots 0 (zEnt 6 [.ref 118, .int (nI k)]) [] M := by
  obtain ⟨b1, b2, b3, b4, b5, b6, b7⟩ := vbidder hW hk
  have hn10 := vord_le hW d
  have hg8 := hW.gN
  have hv7 := hW.tN
  have hgr := vgrown_le hW b2
  show zJ yX10_payableAt cX10_payableAt 6 (some .int) rX10_payableAt Q X 0 0 0 [some (.ref 118), some (.int (nI k)), none, none, none, none] [] M
  refine zj_aload0 (n := 1) rfl dX10_payableAt_0 ?_
  refine zj_aload0 (n := 2) rfl dX10_payableAt_1 ?_
  refine zj_getr (n := 5) (q := 122) rfl dX10_payableAt_2 zf_X10_31 rfl (by decide) (by decide) rfl ?_
  refine zj_iload1 (n := 6) rfl dX10_payableAt_5 ?_
  refine zj_ialoadN (n := 7) rfl dX10_payableAt_6 (by decide) (by decide) (show k < 10 by omega) (hB.2 k hk).1 ?_
  refine zj_iconstN_0 (n := 8) rfl dX10_payableAt_7 ?_
  refine zj_callV2 (n := 11) (a' := 0) (b' := 0) rfl dX10_payableAt_8 zm_X10_66 (by decide) (by decide) rfl (Nat.le_of_ble_eq_true rfl) (Nat.le_of_ble_eq_true rfl) (Nat.le_of_ble_eq_true rfl) (Nat.le_of_ble_eq_true rfl) (jX10_groupValue (c := 0) hA (by omega) ?_)
  refine zj_istore2 (n := 12) rfl dX10_payableAt_11 rfl (Nat.le_of_ble_eq_true rfl) ?_
  show zJ yX10_payableAt cX10_payableAt 6 (some .int) rX10_payableAt Q X 0 0 12 [some (.ref 118), some (.int (nI k)), some (.int (nI (vten v d k))), none, none, none] [] M
  refine zj_aload0 (n := 13) rfl dX10_payableAt_12 ?_
  refine zj_iload2 (n := 14) rfl dX10_payableAt_13 ?_
  refine zj_callV1 (n := 17) (a' := 0) (b' := 0) rfl dX10_payableAt_14 zm_X10_172 (by decide) (by decide) rfl (Nat.le_of_ble_eq_true rfl) (Nat.le_of_ble_eq_true rfl) (Nat.le_of_ble_eq_true rfl) (Nat.le_of_ble_eq_true rfl) (jX10_grownPurse hA hW b2 ?_)
  refine zj_i2lN (n := 18) rfl dX10_payableAt_17 (by omega) ?_
  refine zj_lstore3 (n := 19) rfl dX10_payableAt_18 rfl (Nat.le_of_ble_eq_true rfl) ?_
  refine zj_iconstN_0 (n := 20) rfl dX10_payableAt_19 ?_
  refine zj_istore5 (n := 22) rfl dX10_payableAt_20 rfl (Nat.le_of_ble_eq_true rfl) ?_
  refine zFor_rule (P := fun i (_ : Unit) => zJ yX10_payableAt cX10_payableAt 6 (some .int) rX10_payableAt Q X 0 0 22 [some (.ref 118), some (.int (nI k)), some (.int (nI (vten v d k))), some (.long (lN (vgrown v (vten v d k) - vspent v d u (vten v d k) i))), none, some (.int (nI i))] [] M) (n := k) (f := fun _ s => s) (s0 := ()) ?_ ?_
  · intro i _ hi hk_i
    obtain ⟨i1, i2, i3, i4, i5, i6, i7⟩ := vbidder hW (show i < (vord v d).1 by omega)
    have hsc := vspent_succ v d u (vten v d k) i
    have hmo := vspent_mono (v := v) (d := d) (t := vten v d k) (u := u) (show i + 1 ≤ k by omega)
    have hui := hu2 i hi
    refine zj_iload5 (n := 24) rfl dX10_payableAt_22 ?_
    refine zj_iload1 (n := 25) rfl dX10_payableAt_24 ?_
    refine zj_icmpN_ge (n := 28) (tgt := 70) rfl dX10_payableAt_25 (by decide) (by omega) (by omega) (fun c25 => by omega) (fun c25 => ?_)
    refine zj_aload0 (n := 29) rfl dX10_payableAt_28 ?_
    refine zj_aload0 (n := 30) rfl dX10_payableAt_29 ?_
    refine zj_getr (n := 33) (q := 122) rfl dX10_payableAt_30 zf_X10_31 rfl (by decide) (by decide) rfl ?_
    refine zj_iload5 (n := 35) rfl dX10_payableAt_33 ?_
    refine zj_ialoadN (n := 36) rfl dX10_payableAt_35 (by decide) (by decide) (show i < 10 by omega) (hB.2 i (by omega)).1 ?_
    refine zj_iconstN_0 (n := 37) rfl dX10_payableAt_36 ?_
    refine zj_callV2 (n := 40) (a' := 0) (b' := 0) rfl dX10_payableAt_37 zm_X10_66 (by decide) (by decide) rfl (Nat.le_of_ble_eq_true rfl) (Nat.le_of_ble_eq_true rfl) (Nat.le_of_ble_eq_true rfl) (Nat.le_of_ble_eq_true rfl) (jX10_groupValue (c := 0) hA (by omega) ?_)
    refine zj_iload2 (n := 41) rfl dX10_payableAt_40 ?_
    show zJ yX10_payableAt cX10_payableAt 6 (some .int) rX10_payableAt Q X 0 0 41 [some (.ref 118), some (.int (nI k)), some (.int (nI (vten v d k))), some (.long (lN (vgrown v (vten v d k) - vspent v d u (vten v d k) i))), none, some (.int (nI i))] (.int (nI (vten v d k)) :: .int (nI (vten v d i)) :: []) M
    refine zj_icmpN_ne (n := 44) (tgt := 64) rfl dX10_payableAt_41 (by decide) (by omega) (by omega) (fun c41 => ?_) (fun c41 => ?_)
    · refine zj_iincN5 (n := 67) rfl dX10_payableAt_64 rfl (Nat.le_of_ble_eq_true rfl) ?_
      refine zj_goto (tgt := 22) dX10_payableAt_67 (by decide) ?_
      rw [if_neg c41] at hsc
      exact zj_sub (by simp only [zLe, eq_self, Value.int.injEq, Value.long.injEq, Value.ref.injEq, and_true, true_and]; exact by rw [hsc]) hk_i
    · rw [if_pos c41] at hsc
      refine zj_lload3 (n := 45) rfl dX10_payableAt_44 ?_
      refine zj_aload0 (n := 46) rfl dX10_payableAt_45 ?_
      refine zj_getr (n := 49) (q := 123) rfl dX10_payableAt_46 zf_X10_34 rfl (by decide) (by decide) rfl ?_
      refine zj_iload5 (n := 51) rfl dX10_payableAt_49 ?_
      refine zj_ialoadN (n := 52) rfl dX10_payableAt_51 (by decide) (by decide) (show i < 10 by omega) (show _ = nI (voff v d i) from (hB.2 i (by omega)).2) ?_
      refine zj_i2lN (n := 53) rfl dX10_payableAt_52 (by omega) ?_
      refine zj_aload0 (n := 54) rfl dX10_payableAt_53 ?_
      refine zj_getr (n := 57) (q := 125) rfl dX10_payableAt_54 zf_X10_40 rfl (by decide) (by decide) rfl ?_
      refine zj_iload5 (n := 59) rfl dX10_payableAt_57 ?_
      refine zj_ialoadN (n := 60) rfl dX10_payableAt_59 (by decide) (by decide) (show i < 10 by omega) (hu i hi) ?_
      refine zj_i2lN (n := 61) rfl dX10_payableAt_60 (by omega) ?_
      refine zj_lmulN (n := 62) rfl dX10_payableAt_61 ?_
      refine zj_lsubN (n := 63) rfl dX10_payableAt_62 (by omega) ?_
      refine zj_lstore3 (n := 64) rfl dX10_payableAt_63 rfl (Nat.le_of_ble_eq_true rfl) ?_
      refine zj_iincN5 (n := 67) rfl dX10_payableAt_64 rfl (Nat.le_of_ble_eq_true rfl) ?_
      refine zj_goto (tgt := 22) dX10_payableAt_67 (by decide) ?_
      exact zj_sub (by simp only [zLe, eq_self, Value.int.injEq, Value.long.injEq, Value.ref.injEq, and_true, true_and]; exact by rw [hsc]; exact congrArg lN (by omega)) hk_i
  · skip
    refine zj_iload5 (n := 24) rfl dX10_payableAt_22 ?_
    refine zj_iload1 (n := 25) rfl dX10_payableAt_24 ?_
    refine zj_icmpN_ge (n := 28) (tgt := 70) rfl dX10_payableAt_25 (by decide) (by omega) (by omega) (fun c25 => ?_) (fun c25 => by omega)
    refine zj_lload3 (n := 71) rfl dX10_payableAt_70 ?_
    refine zj_aload0 (n := 72) rfl dX10_payableAt_71 ?_
    refine zj_getr (n := 75) (q := 123) rfl dX10_payableAt_72 zf_X10_34 rfl (by decide) (by decide) rfl ?_
    refine zj_iload1 (n := 76) rfl dX10_payableAt_75 ?_
    refine zj_ialoadN (n := 77) rfl dX10_payableAt_76 (by decide) (by decide) (show k < 10 by omega) (show _ = nI (voff v d k) from (hB.2 k hk).2) ?_
    refine zj_i2lN (n := 78) rfl dX10_payableAt_77 (by omega) ?_
    refine zj_ldivN (n := 79) rfl dX10_payableAt_78 (by omega) (by omega) (by omega) ?_
    refine zj_l2iN (n := 80) rfl dX10_payableAt_79 ?_
    exact zj_ireturn dX10_payableAt_80 rfl rfl h
theorem jX10_layRound {w : Nat} {v : zV} {d : Nat} {Q : Option Value → zM → Prop} {X : String → zM → Prop} {M : zM} (hA : zRA M w v) (hW : zWF v) (hd : M.1 118 4 = nI d) (hd2 : d < 2 ^ 16) (h : ∀ M', zSr M M' → zRd M' v d (vord v d).1 (vsell v d) → (∀ k, k < (vord v d).1 → M'.1 126 k = nI (vprice v d k)) → Q none M') : zJ yX10_layRound cX10_layRound 4 none rX10_layRound Q X rX10_layRound.cells rX10_layRound.slots 0 (zEnt 4 [.ref 118]) [] M := by
  have hn10 := vord_le hW d
  have w0 := hW.1
  have w2 := hW.2.2.1
  have w3 := hW.2.2.2.1
  have w4 := hW.2.2.2.2.1
  show zJ yX10_layRound cX10_layRound 4 none rX10_layRound Q X 0 0 0 [some (.ref 118), none, none, none] [] M
  refine zj_aload0 (n := 1) rfl dX10_layRound_0 ?_
  refine zj_callV0 (n := 4) (a' := 0) (b' := 0) rfl dX10_layRound_1 zm_X10_175 (by decide) (by decide) rfl (Nat.le_of_ble_eq_true rfl) (Nat.le_of_ble_eq_true rfl) (Nat.le_of_ble_eq_true rfl) (Nat.le_of_ble_eq_true rfl) (jX10_layBids hA hW hd hd2 ?_)
  intro M1 hM1 hB hN
  refine zj_aload0 (n := 5) rfl dX10_layRound_4 ?_
  refine zj_aload0 (n := 6) rfl dX10_layRound_5 ?_
  refine zj_getr (n := 9) (q := w) rfl dX10_layRound_6 zf_X10_24 rfl (by decide) (by decide) (hM1.ra hA).now ?_
  refine zj_iconstN_2 (n := 10) rfl dX10_layRound_9 ?_
  refine zj_ialoadN (n := 11) rfl dX10_layRound_10 hA.2.1.lt hA.2.1.ty (by rw [(hM1.ra hA).2.1.len]; omega) ((hM1.ra hA).2.2 _ (by omega)) ?_
  refine zj_puti (n := 14) rfl dX10_layRound_11 zp_X10_178 rfl (by decide) (by decide) ?_
  have hE : zSr M (zU M1.1 118 12 (nI (v 2)), M1.2) := hM1.up rfl
  refine zj_aload0 (n := 15) rfl dX10_layRound_14 ?_
  refine zj_aload0 (n := 16) rfl dX10_layRound_15 ?_
  refine zj_getr (n := 19) (q := w) rfl dX10_layRound_16 zf_X10_24 rfl (by decide) (by decide) (hE.ra hA).now ?_
  refine zj_iconstN_0 (n := 20) rfl dX10_layRound_19 ?_
  refine zj_ialoadN (n := 21) rfl dX10_layRound_20 hA.2.1.lt hA.2.1.ty (by rw [(hE.ra hA).2.1.len]; omega) ((hE.ra hA).2.2 _ (by omega)) ?_
  refine zj_aload0 (n := 22) rfl dX10_layRound_21 ?_
  refine zj_getr (n := 25) (q := w) rfl dX10_layRound_22 zf_X10_24 rfl (by decide) (by decide) (hE.ra hA).now ?_
  refine zj_iconstN_4 (n := 26) rfl dX10_layRound_25 ?_
  refine zj_ialoadN (n := 27) rfl dX10_layRound_26 hA.2.1.lt hA.2.1.ty (by rw [(hE.ra hA).2.1.len]; omega) ((hE.ra hA).2.2 _ (by omega)) ?_
  refine zj_iaddN (n := 28) rfl dX10_layRound_27 ?_
  refine zj_puti (n := 31) rfl dX10_layRound_28 zp_X10_181 rfl (by decide) (by decide) ?_
  refine zj_iconstN_0 (n := 32) rfl dX10_layRound_31 ?_
  refine zj_istore1 (n := 33) rfl dX10_layRound_32 rfl (Nat.le_of_ble_eq_true rfl) ?_
  refine zj_iconstN_0 (n := 34) rfl dX10_layRound_33 ?_
  refine zj_istore2 (n := 35) rfl dX10_layRound_34 rfl (Nat.le_of_ble_eq_true rfl) ?_
  have hR0 : zRd (zU (zU M1.1 118 12 (nI (v 2))) 118 13 (nI (v 0 + v 4)), M1.2) v d 0 (vsellk v d 0) := ⟨zBn.off (M := (zU M1.1 118 12 (nI (v 2)), M1.2)) (zBn.off ⟨hB, hN⟩ (by omega)) (by omega), fun i hi => absurd hi (Nat.not_lt_zero i), (by dsimp only; exact (zU_nj (by decide)).trans zU_eq), (by dsimp only; exact zU_eq)⟩
  refine zj_sub (l' := [some (.ref 118), some (.int (zb (vsellk v d 0).2.1)), some (.int (nI 0)), none]) (by simp only [zLe, eq_self, Value.int.injEq, and_true, true_and]; exact rfl) ?_
  refine zFor_rule (P := fun k (_ : Unit) => ∀ M2, zSr M M2 → zRd M2 v d k (vsellk v d k) → zJ yX10_layRound cX10_layRound 4 none rX10_layRound Q X 0 0 35 [some (.ref 118), some (.int (zb ((vsellk v d k).2.1))), some (.int (nI k)), none] [] M2) (n := (vord v d).1) (f := fun _ s => s) (s0 := ()) ?_ ?_ _ (hE.up rfl) hR0
  · intro k _ hk9 hk M2 hM2 hR
    obtain ⟨s1, s2, s3, s4, s5, s6, s7⟩ := vsellk_ok hW k (Nat.le_of_lt hk9)
    obtain ⟨b1, b2, b3, b4, b5, b6, b7⟩ := vbidder hW hk9
    have hgr := vgrown_le hW b2
    have hcn : vcanp v d (vsellk v d k).2.2.2 k < 2 ^ 31 := Nat.lt_of_le_of_lt (Nat.div_le_self _ _) (by omega)
    obtain ⟨u1, u2, u3⟩ := vunit_le v d k (vsellk v d k)
    refine zj_iload2 (n := 36) rfl dX10_layRound_35 ?_
    refine zj_aload0 (n := 37) rfl dX10_layRound_36 ?_
    refine zj_getiN (n := 40) rfl dX10_layRound_37 zf_X10_161 rfl (by decide) (by decide) hR.1.1.1 ?_
    refine zj_icmpN_ge (n := 43) (tgt := 137) rfl dX10_layRound_40 (by decide) (by omega) (by omega) (fun c40 => by omega) (fun c40 => ?_)
    refine zj_aload0 (n := 44) rfl dX10_layRound_43 ?_
    refine zj_iload2 (n := 45) rfl dX10_layRound_44 ?_
    refine zj_callV1 (n := 48) (a' := 0) (b' := 0) rfl dX10_layRound_45 zm_X10_184 (by decide) (by decide) rfl (Nat.le_of_ble_eq_true rfl) (Nat.le_of_ble_eq_true rfl) (Nat.le_of_ble_eq_true rfl) (Nat.le_of_ble_eq_true rfl) (jX10_payableAt (hM2.ra hA) hW hR.1.1 hk9 hR.2.1 (fun i hi => Nat.le_trans (s2 i hi) (vbidder hW (Nat.lt_trans hi hk9)).2.2.2.2.2.1) (s3 _ b2) ?_)
    refine zj_istore3 (n := 49) rfl dX10_layRound_48 rfl (Nat.le_of_ble_eq_true rfl) ?_
    refine zj_aload0 (n := 50) rfl dX10_layRound_49 ?_
    refine zj_getr (n := 53) (q := 125) rfl dX10_layRound_50 zf_X10_40 rfl (by decide) (by decide) rfl ?_
    refine zj_iload2 (n := 54) rfl dX10_layRound_53 ?_
    refine zj_aload0 (n := 55) rfl dX10_layRound_54 ?_
    refine zj_getr (n := 58) (q := 124) rfl dX10_layRound_55 zf_X10_37 rfl (by decide) (by decide) rfl ?_
    refine zj_iload2 (n := 59) rfl dX10_layRound_58 ?_
    refine zj_ialoadN (n := 60) rfl dX10_layRound_59 (by decide) (by decide) (show k < 10 by omega) (show _ = nI (vnd v d k) from hR.1.2 k hk9) ?_
    refine zj_aload0 (n := 61) rfl dX10_layRound_60 ?_
    refine zj_getiN (n := 64) rfl dX10_layRound_61 zf_X10_181 rfl (by decide) (by decide) hR.2.2.2 ?_
    refine zj_iload3 (n := 65) rfl dX10_layRound_64 ?_
    refine zj_iminN (n := 68) rfl dX10_layRound_65 zm_X10_170 (by decide) (Nat.le_of_ble_eq_true rfl) (by omega) (by omega) ?_
    refine zj_iminN (n := 71) rfl dX10_layRound_68 zm_X10_170 (by decide) (Nat.le_of_ble_eq_true rfl) (by omega) (by omega) ?_
    refine zj_iastoreN (n := 72) rfl dX10_layRound_71 (by decide) (by decide) (show k < 10 by omega) ?_
    refine zj_aload0 (n := 73) rfl dX10_layRound_72 ?_
    refine zj_dupr (n := 74) rfl dX10_layRound_73 ?_
    refine zj_getiN (n := 77) rfl dX10_layRound_74 zf_X10_181 rfl (by decide) (by decide) (by dsimp only; exact (zU_ne (by decide)).trans hR.2.2.2) ?_
    refine zj_aload0 (n := 78) rfl dX10_layRound_77 ?_
    refine zj_getr (n := 81) (q := 125) rfl dX10_layRound_78 zf_X10_40 rfl (by decide) (by decide) rfl ?_
    refine zj_iload2 (n := 82) rfl dX10_layRound_81 ?_
    refine zj_ialoadN (n := 83) rfl dX10_layRound_82 (by decide) (by decide) (show k < 10 by omega) (by dsimp only; exact zU_eq (v := nI (vunit v d k (vsellk v d k)))) ?_
    refine zj_isubN (n := 84) rfl dX10_layRound_83 (by omega) ?_
    refine zj_puti (n := 87) rfl dX10_layRound_84 zp_X10_181 rfl (by decide) (by decide) ?_
    refine zj_gen (fun M3 => zSr M M3 ∧ zRd M3 v d (k + 1) ((vsellk v d k).1 - (vunit v d k (vsellk v d k)), (vsellk v d k).2.1, (vsellk v d k).2.2.1, fun j => if j = k then (vunit v d k (vsellk v d k)) else (vsellk v d k).2.2.2 j)) ⟨(hM2.up (k := 125) (j := k) (zSrI_r (by decide) (by decide))).up rfl, hR.step⟩ (fun M3 h3 => ?_)
    obtain ⟨hM3, hR3⟩ := h3
    have e125 : M3.1 125 k = nI (vunit v d k (vsellk v d k)) := (hR3.2.1 k (by omega)).trans (congrArg nI (if_pos rfl))
    refine zj_iload1 (n := 88) rfl dX10_layRound_87 ?_
    refine zj_ifB_ne (n := 91) (tgt := 131) rfl dX10_layRound_88 (by decide) (fun c88 => ?_) (fun c88 => ?_)
    · refine zj_iincN2 (n := 134) rfl dX10_layRound_131 rfl (Nat.le_of_ble_eq_true rfl) ?_
      refine zj_goto (tgt := 35) dX10_layRound_134 (by decide) ?_
      have e9 := vsellk_same (v := v) (d := d) (k := k) (Or.inl c88)
      rw [e9] at hk
      exact zj_sub (by simp only [zLe, eq_self, and_true]) (hk M3 hM3 hR3)
    · -- 
      refine zj_aload0 (n := 92) rfl dX10_layRound_91 ?_
      refine zj_getr (n := 95) (q := 125) rfl dX10_layRound_92 zf_X10_40 rfl (by decide) (by decide) rfl ?_
      refine zj_iload2 (n := 96) rfl dX10_layRound_95 ?_
      refine zj_ialoadN (n := 97) rfl dX10_layRound_96 (by decide) (by decide) (show k < 10 by omega) e125 ?_
      refine zj_aload0 (n := 98) rfl dX10_layRound_97 ?_
      refine zj_getr (n := 101) (q := 124) rfl dX10_layRound_98 zf_X10_37 rfl (by decide) (by decide) rfl ?_
      refine zj_iload2 (n := 102) rfl dX10_layRound_101 ?_
      refine zj_ialoadN (n := 103) rfl dX10_layRound_102 (by decide) (by decide) (show k < 10 by omega) (show _ = nI (vnd v d k) from hR3.1.2 k hk9) ?_
      refine zj_icmpN_eq (n := 106) (tgt := 131) rfl dX10_layRound_103 (by decide) (by omega) (by omega) (fun c103 => ?_) (fun c103 => ?_)
      · refine zj_iincN2 (n := 134) rfl dX10_layRound_131 rfl (Nat.le_of_ble_eq_true rfl) ?_
        refine zj_goto (tgt := 35) dX10_layRound_134 (by decide) ?_
        have e9 := vsellk_same (v := v) (d := d) (k := k) (Or.inr (by simp [vcut, c103]))
        rw [e9] at hk
        exact zj_sub (by simp only [zLe, eq_self, and_true]) (hk M3 hM3 hR3)
      · refine zj_iload3 (n := 107) rfl dX10_layRound_106 ?_
        refine zj_aload0 (n := 108) rfl dX10_layRound_107 ?_
        refine zj_getr (n := 111) (q := 125) rfl dX10_layRound_108 zf_X10_40 rfl (by decide) (by decide) rfl ?_
        refine zj_iload2 (n := 112) rfl dX10_layRound_111 ?_
        refine zj_ialoadN (n := 113) rfl dX10_layRound_112 (by decide) (by decide) (show k < 10 by omega) e125 ?_
        refine zj_icmpN_ne (n := 116) (tgt := 119) rfl dX10_layRound_113 (by decide) (by omega) (by omega) (fun c113 => ?_) (fun c113 => ?_)
        · refine zj_iconstN_1 (n := 120) rfl dX10_layRound_119 ?_
          refine zj_istore1 (n := 121) rfl dX10_layRound_120 rfl (Nat.le_of_ble_eq_true rfl) ?_
          refine zj_aload0 (n := 122) rfl dX10_layRound_121 ?_
          refine zj_aload0 (n := 123) rfl dX10_layRound_122 ?_
          refine zj_getr (n := 126) (q := 123) rfl dX10_layRound_123 zf_X10_34 rfl (by decide) (by decide) rfl ?_
          refine zj_iload2 (n := 127) rfl dX10_layRound_126 ?_
          refine zj_ialoadN (n := 128) rfl dX10_layRound_127 (by decide) (by decide) (show k < 10 by omega) (show _ = nI (voff v d k) from (hR3.1.1.2 k hk9).2) ?_
          refine zj_puti (n := 131) rfl dX10_layRound_128 zp_X10_178 rfl (by decide) (by decide) ?_
          refine zj_iincN2 (n := 134) rfl dX10_layRound_131 rfl (Nat.le_of_ble_eq_true rfl) ?_
          refine zj_goto (tgt := 35) dX10_layRound_134 (by decide) ?_
          have e9 := vsellk_new (v := v) (d := d) (k := k) c88 (by simp [vcut, c103, c113])
          rw [e9] at hk
          exact zj_sub (by simp only [zLe, eq_self, and_true, true_and, Value.int.injEq]; exact rfl) (hk (zU M3.1 118 12 (nI (voff v d k)), M3.2) (hM3.up rfl) hR3.clr)
        · refine zj_goto (tgt := 131) dX10_layRound_116 (by decide) ?_
          refine zj_iincN2 (n := 134) rfl dX10_layRound_131 rfl (Nat.le_of_ble_eq_true rfl) ?_
          refine zj_goto (tgt := 35) dX10_layRound_134 (by decide) ?_
          have e9 := vsellk_same (v := v) (d := d) (k := k) (Or.inr (by simp [vcut, c113]))
          rw [e9] at hk
          exact zj_sub (by simp only [zLe, eq_self, and_true]) (hk M3 hM3 hR3)
  · intro M2 hM2 hR
    refine zj_iload2 (n := 36) rfl dX10_layRound_35 ?_
    refine zj_aload0 (n := 37) rfl dX10_layRound_36 ?_
    refine zj_getiN (n := 40) rfl dX10_layRound_37 zf_X10_161 rfl (by decide) (by decide) hR.1.1.1 ?_
    refine zj_icmpN_ge (n := 43) (tgt := 137) rfl dX10_layRound_40 (by decide) (by omega) (by omega) (fun c40 => ?_) (fun c40 => by omega)
    refine zj_iconstN_0 (n := 138) rfl dX10_layRound_137 ?_
    refine zj_istore2 (n := 139) rfl dX10_layRound_138 rfl (Nat.le_of_ble_eq_true rfl) ?_
    refine zj_sub (l' := [some (.ref 118), none, some (.int (nI 0)), none]) (by simp only [zLe, eq_self, and_true]) ?_
    refine zFor_rule (P := fun k (_ : Unit) => ∀ M4, zSr M M4 → zRd M4 v d (vord v d).1 (vsell v d) → (∀ i, i < k → M4.1 126 i = nI (vprice v d i)) → zJ yX10_layRound cX10_layRound 4 none rX10_layRound Q X 0 0 139 [some (.ref 118), none, some (.int (nI k)), none] [] M4) (n := (vord v d).1) (f := fun _ s => s) (s0 := ()) ?_ ?_ M2 hM2 hR (fun i hi => absurd hi (Nat.not_lt_zero i))
    · intro k _ hk9 hk M4 hM4 hR4 hp4
      obtain ⟨b1, b2, b3, b4, b5, b6, b7⟩ := vbidder hW hk9
      refine zj_iload2 (n := 140) rfl dX10_layRound_139 ?_
      refine zj_aload0 (n := 141) rfl dX10_layRound_140 ?_
      refine zj_getiN (n := 144) rfl dX10_layRound_141 zf_X10_161 rfl (by decide) (by decide) hR4.1.1.1 ?_
      refine zj_icmpN_ge (n := 147) (tgt := 221) rfl dX10_layRound_144 (by decide) (by omega) (by omega) (fun c144 => by omega) (fun c144 => ?_)
      refine zj_aload0 (n := 148) rfl dX10_layRound_147 ?_
      refine zj_getr (n := 151) (q := 126) rfl dX10_layRound_148 zf_X10_43 rfl (by decide) (by decide) rfl ?_
      refine zj_iload2 (n := 152) rfl dX10_layRound_151 ?_
      refine zj_aload0 (n := 153) rfl dX10_layRound_152 ?_
      refine zj_getr (n := 156) (q := w) rfl dX10_layRound_153 zf_X10_24 rfl (by decide) (by decide) (hM4.ra hA).now ?_
      refine zj_iconstN_3 (n := 157) rfl dX10_layRound_156 ?_
      refine zj_ialoadN (n := 158) rfl dX10_layRound_157 hA.2.1.lt hA.2.1.ty (by rw [(hM4.ra hA).2.1.len]; omega) ((hM4.ra hA).2.2 _ (by omega)) ?_
      refine zj_ifN_ne (n := 161) (tgt := 170) rfl dX10_layRound_158 (by decide) (by omega) (fun c158 => ?_) (fun c158 => ?_)
      · refine zj_aload0 (n := 171) rfl dX10_layRound_170 ?_
        refine zj_getr (n := 174) (q := w) rfl dX10_layRound_171 zf_X10_24 rfl (by decide) (by decide) (hM4.ra hA).now ?_
        refine zj_iconstN_3 (n := 175) rfl dX10_layRound_174 ?_
        refine zj_ialoadN (n := 176) rfl dX10_layRound_175 hA.2.1.lt hA.2.1.ty (by rw [(hM4.ra hA).2.1.len]; omega) ((hM4.ra hA).2.2 _ (by omega)) ?_
        refine zj_iconstN_2 (n := 177) rfl dX10_layRound_176 ?_
        refine zj_icmpN_ne (n := 180) (tgt := 187) rfl dX10_layRound_177 (by decide) (by omega) (by omega) (fun c177 => ?_) (fun c177 => ?_)
        · refine zj_iload2 (n := 188) rfl dX10_layRound_187 ?_
          refine zj_iconstN_1 (n := 189) rfl dX10_layRound_188 ?_
          refine zj_iaddN (n := 190) rfl dX10_layRound_189 ?_
          refine zj_aload0 (n := 191) rfl dX10_layRound_190 ?_
          refine zj_getiN (n := 194) rfl dX10_layRound_191 zf_X10_161 rfl (by decide) (by decide) hR4.1.1.1 ?_
          refine zj_icmpN_ge (n := 197) (tgt := 208) rfl dX10_layRound_194 (by decide) (by omega) (by omega) (fun c194 => ?_) (fun c194 => ?_)
          · refine zj_aload0 (n := 209) rfl dX10_layRound_208 ?_
            refine zj_getr (n := 212) (q := w) rfl dX10_layRound_209 zf_X10_24 rfl (by decide) (by decide) (hM4.ra hA).now ?_
            refine zj_iconstN_2 (n := 213) rfl dX10_layRound_212 ?_
            refine zj_ialoadN (n := 214) rfl dX10_layRound_213 hA.2.1.lt hA.2.1.ty (by rw [(hM4.ra hA).2.1.len]; omega) ((hM4.ra hA).2.2 _ (by omega)) ?_
            refine zj_iastoreN (n := 215) rfl dX10_layRound_214 (by decide) (by decide) (show k < 10 by omega) ?_
            refine zj_iincN2 (n := 218) rfl dX10_layRound_215 rfl (Nat.le_of_ble_eq_true rfl) ?_
            refine zj_goto (tgt := 139) dX10_layRound_218 (by decide) ?_
            have ep : vprice v d k = v 2 := by
              unfold vprice
              rw [if_neg (by omega), if_neg c177, if_neg (by omega)]
            refine zj_sub (by simp only [zLe, eq_self, and_true]) (zj_eq rfl rfl (by rw [← ep]) (hk (zU M4.1 126 k (nI (vprice v d k)), M4.2) (hM4.up (zSrI_r (by decide) (by decide))) hR4.price (fun i hi => by
              show zU M4.1 126 k (nI (vprice v d k)) 126 i = _
              rw [zU_at]
              show (if i = k then _ else _) = _
              by_cases e : i = k
              · rw [if_pos e, e]
              · rw [if_neg e]; exact hp4 i (by omega))))
          · refine zj_aload0 (n := 198) rfl dX10_layRound_197 ?_
            refine zj_getr (n := 201) (q := 123) rfl dX10_layRound_198 zf_X10_34 rfl (by decide) (by decide) rfl ?_
            refine zj_iload2 (n := 202) rfl dX10_layRound_201 ?_
            refine zj_iconstN_1 (n := 203) rfl dX10_layRound_202 ?_
            refine zj_iaddN (n := 204) rfl dX10_layRound_203 ?_
            refine zj_ialoadN (n := 205) rfl dX10_layRound_204 (by decide) (by decide) (show (k + 1) < 10 by omega) (show _ = nI (voff v d (k + 1)) from (hR4.1.1.2 (k + 1) (by omega)).2) ?_
            refine zj_goto (tgt := 214) dX10_layRound_205 (by decide) ?_
            refine zj_iastoreN (n := 215) rfl dX10_layRound_214 (by decide) (by decide) (show k < 10 by omega) ?_
            refine zj_iincN2 (n := 218) rfl dX10_layRound_215 rfl (Nat.le_of_ble_eq_true rfl) ?_
            refine zj_goto (tgt := 139) dX10_layRound_218 (by decide) ?_
            have ep : vprice v d k = voff v d (k + 1) := by
              unfold vprice
              rw [if_neg (by omega), if_neg c177, if_pos c194]
            refine zj_sub (by simp only [zLe, eq_self, and_true]) (zj_eq rfl rfl (by rw [← ep]) (hk (zU M4.1 126 k (nI (vprice v d k)), M4.2) (hM4.up (zSrI_r (by decide) (by decide))) hR4.price (fun i hi => by
              show zU M4.1 126 k (nI (vprice v d k)) 126 i = _
              rw [zU_at]
              show (if i = k then _ else _) = _
              by_cases e : i = k
              · rw [if_pos e, e]
              · rw [if_neg e]; exact hp4 i (by omega))))
        · refine zj_aload0 (n := 181) rfl dX10_layRound_180 ?_
          refine zj_getiN (n := 184) rfl dX10_layRound_181 zf_X10_178 rfl (by decide) (by decide) (show _ = nI (vsell v d).2.2.1 from hR4.2.2.1) ?_
          refine zj_goto (tgt := 214) dX10_layRound_184 (by decide) ?_
          refine zj_iastoreN (n := 215) rfl dX10_layRound_214 (by decide) (by decide) (show k < 10 by omega) ?_
          refine zj_iincN2 (n := 218) rfl dX10_layRound_215 rfl (Nat.le_of_ble_eq_true rfl) ?_
          refine zj_goto (tgt := 139) dX10_layRound_218 (by decide) ?_
          have ep : vprice v d k = (vsell v d).2.2.1 := by
            unfold vprice
            rw [if_neg (by omega), if_pos c177]
          refine zj_sub (by simp only [zLe, eq_self, and_true]) (zj_eq rfl rfl (by rw [← ep]) (hk (zU M4.1 126 k (nI (vprice v d k)), M4.2) (hM4.up (zSrI_r (by decide) (by decide))) hR4.price (fun i hi => by
            show zU M4.1 126 k (nI (vprice v d k)) 126 i = _
            rw [zU_at]
            show (if i = k then _ else _) = _
            by_cases e : i = k
            · rw [if_pos e, e]
            · rw [if_neg e]; exact hp4 i (by omega))))
      · refine zj_aload0 (n := 162) rfl dX10_layRound_161 ?_
        refine zj_getr (n := 165) (q := 123) rfl dX10_layRound_162 zf_X10_34 rfl (by decide) (by decide) rfl ?_
        refine zj_iload2 (n := 166) rfl dX10_layRound_165 ?_
        refine zj_ialoadN (n := 167) rfl dX10_layRound_166 (by decide) (by decide) (show k < 10 by omega) (show _ = nI (voff v d k) from (hR4.1.1.2 k hk9).2) ?_
        refine zj_goto (tgt := 214) dX10_layRound_167 (by decide) ?_
        refine zj_iastoreN (n := 215) rfl dX10_layRound_214 (by decide) (by decide) (show k < 10 by omega) ?_
        refine zj_iincN2 (n := 218) rfl dX10_layRound_215 rfl (Nat.le_of_ble_eq_true rfl) ?_
        refine zj_goto (tgt := 139) dX10_layRound_218 (by decide) ?_
        have ep : vprice v d k = voff v d k := by
          unfold vprice
          rw [if_pos c158]
        refine zj_sub (by simp only [zLe, eq_self, and_true]) (zj_eq rfl rfl (by rw [← ep]) (hk (zU M4.1 126 k (nI (vprice v d k)), M4.2) (hM4.up (zSrI_r (by decide) (by decide))) hR4.price (fun i hi => by
          show zU M4.1 126 k (nI (vprice v d k)) 126 i = _
          rw [zU_at]
          show (if i = k then _ else _) = _
          by_cases e : i = k
          · rw [if_pos e, e]
          · rw [if_neg e]; exact hp4 i (by omega))))
    · intro M4 hM4 hR4 hp4
      refine zj_iload2 (n := 140) rfl dX10_layRound_139 ?_
      refine zj_aload0 (n := 141) rfl dX10_layRound_140 ?_
      refine zj_getiN (n := 144) rfl dX10_layRound_141 zf_X10_161 rfl (by decide) (by decide) hR4.1.1.1 ?_
      refine zj_icmpN_ge (n := 147) (tgt := 221) rfl dX10_layRound_144 (by decide) (by omega) (by omega) (fun c144 => ?_) (fun c144 => by omega)
      exact zj_return dX10_layRound_221 rfl (h M4 hM4 hR4 hp4)
