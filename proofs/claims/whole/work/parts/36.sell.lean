/-! THE CLASS'S AUCTIONS: what is sold -/
theorem jX0_tenantAt {u r : Nat} {v : zV} {k : Nat} {Q : Option Value → zM → Prop} {X : String → zM → Prop} {M : zM} (hu : zAi u) (hR : zRg M r v) (hW : zWF v) (hM : zMb M u (voffer v 0) (vord v 0)) (hk : k < (vord v 0).1) (h : Q (some (.int (nI (vten v 0 k)))) M) : zJ yX0_tenantAt cX0_tenantAt 3 (some .int) rX0_tenantAt Q X rX0_tenantAt.cells rX0_tenantAt.slots 0 (zEnt 3 [.ref u, .ref r, .int (nI k)]) [] M := by
  obtain ⟨b1, b2, b3, b4, b5, b6, b7⟩ := vbidder hW hk
  have hn10 := vord_le hW 0
  have h8 := hW.gN
  have h7 := hW.tN
  show zJ yX0_tenantAt cX0_tenantAt 3 (some .int) rX0_tenantAt Q X 0 0 0 [some (.ref u), some (.ref r), some (.int (nI k))] [] M
  refine zj_aload1 (n := 1) rfl dX0_tenantAt_0 ?_
  refine zj_getr (n := 4) (q := r + 5) rfl dX0_tenantAt_1 zf_X0_30 rfl hR.i.lt hR.i.ty rfl ?_
  refine zj_aload0 (n := 5) rfl dX0_tenantAt_4 ?_
  refine zj_getr (n := 8) (q := u + 3) rfl dX0_tenantAt_5 zf_X0_23 rfl hu.lt hu.ty rfl ?_
  refine zj_iload2 (n := 9) rfl dX0_tenantAt_8 ?_
  refine zj_iconstN_0 (n := 10) rfl dX0_tenantAt_9 ?_
  refine zj_callV2 (n := 13) (a' := 0) (b' := 0) rfl dX0_tenantAt_10 zm_X0_50 (by decide) hu.lt3 (by rw [hu.ty3]; rfl) (Nat.le_of_ble_eq_true rfl) (Nat.le_of_ble_eq_true rfl) (Nat.le_of_ble_eq_true rfl) (Nat.le_of_ble_eq_true rfl) (jT_get (e := (vord v 0).2 k) hM.1 (by omega) (by decide) (hM.2 _ (by omega)).1 ?_)
  refine zj_iconstN_0 (n := 14) rfl dX0_tenantAt_13 ?_
  refine zj_callV2 (n := 17) (a' := 0) (b' := 0) rfl dX0_tenantAt_14 zm_X0_50 (by decide) (hR.i.ltc (c := 5) (by decide)) (by rw [(hR.i.ty1 (c := 5) (by decide))]; rfl) (Nat.le_of_ble_eq_true rfl) (Nat.le_of_ble_eq_true rfl) (Nat.le_of_ble_eq_true rfl) (Nat.le_of_ble_eq_true rfl) (jT_get hR.g.1 (by omega) (by decide) (hR.g.c (by omega) (by decide)) ?_)
  exact zj_ireturn dX0_tenantAt_17 rfl rfl h
theorem jX0_unitsPayable {u r : Nat} {v : zV} {k : Nat} {w : Nat → Nat} {Q : Option Value → zM → Prop} {X : String → zM → Prop} {M : zM} (hu : zAi u) (hR : zRg M r v) (hW : zWF v) (hM : zMb M u (voffer v 0) (vord v 0)) (hk : k < (vord v 0).1) (hw : ∀ i, i < k → M.1 (u + 4) (i * 4 + 2) = nI (w i)) (hw2 : ∀ i, i < k → w i ≤ 7000) (hs : vspent v 0 w (vten v 0 k) k ≤ vgrown v (vten v 0 k)) (h : Q (some (.int (nI (vcanp v 0 w k)))) M) : zJ yX0_unitsPayable cX0_unitsPayable 6 (some .int) rX0_unitsPayable Q X rX0_unitsPayable.cells rX0_unitsPayable.slots 0 (zEnt 6 [.ref u, .ref r, .int (nI k)]) [] M := by
  obtain ⟨b1, b2, b3, b4, b5, b6, b7⟩ := vbidder hW hk
  have hn10 := vord_le hW 0
  have h8 := hW.gN
  have h7 := hW.tN
  have hgr := vgrown_le hW b2
  show zJ yX0_unitsPayable cX0_unitsPayable 6 (some .int) rX0_unitsPayable Q X 0 0 0 [some (.ref u), some (.ref r), some (.int (nI k)), none, none, none] [] M
  refine zj_aload0 (n := 1) rfl dX0_unitsPayable_0 ?_
  refine zj_aload1 (n := 2) rfl dX0_unitsPayable_1 ?_
  refine zj_iload2 (n := 3) rfl dX0_unitsPayable_2 ?_
  refine zj_callV2 (n := 6) (a' := 0) (b' := 0) rfl dX0_unitsPayable_3 zm_X0_110 (by decide) hu.lt (by rw [hu.ty]; rfl) (Nat.le_of_ble_eq_true rfl) (Nat.le_of_ble_eq_true rfl) (Nat.le_of_ble_eq_true rfl) (Nat.le_of_ble_eq_true rfl) (jX0_tenantAt hu hR hW hM hk ?_)
  refine zj_istore3 (n := 7) rfl dX0_unitsPayable_6 rfl (Nat.le_of_ble_eq_true rfl) ?_
  refine zj_aload1 (n := 8) rfl dX0_unitsPayable_7 ?_
  refine zj_iload3 (n := 9) rfl dX0_unitsPayable_8 ?_
  refine zj_callV1 (n := 12) (a' := 0) (b' := 0) rfl dX0_unitsPayable_9 zm_X0_113 (by decide) hR.i.lt (by rw [hR.i.ty]; rfl) (Nat.le_of_ble_eq_true rfl) (Nat.le_of_ble_eq_true rfl) (Nat.le_of_ble_eq_true rfl) (Nat.le_of_ble_eq_true rfl) (jX6_grownPurse hR hW b2 ?_)
  refine zj_istore4 (n := 14) rfl dX0_unitsPayable_12 rfl (Nat.le_of_ble_eq_true rfl) ?_
  refine zj_iconstN_0 (n := 15) rfl dX0_unitsPayable_14 ?_
  refine zj_istore5 (n := 17) rfl dX0_unitsPayable_15 rfl (Nat.le_of_ble_eq_true rfl) ?_
  refine zFor_rule (P := fun i (_ : Unit) => zJ yX0_unitsPayable cX0_unitsPayable 6 (some .int) rX0_unitsPayable Q X 0 0 17 [some (.ref u), some (.ref r), some (.int (nI k)), some (.int (nI (vten v 0 k))), some (.int (nI (vgrown v (vten v 0 k) - vspent v 0 w (vten v 0 k) i))), some (.int (nI i))] [] M) (n := k) (f := fun _ s => s) (s0 := ()) ?_ ?_
  · intro i _ hi hk_i
    obtain ⟨i1, i2, i3, i4, i5, i6, i7⟩ := vbidder hW (show i < (vord v 0).1 by omega)
    have hsc := vspent_succ v 0 w (vten v 0 k) i
    have hmo := vspent_mono (v := v) (d := 0) (t := vten v 0 k) (u := w) (show i + 1 ≤ k by omega)
    have hui := hw2 i hi
    refine zj_iload5 (n := 19) rfl dX0_unitsPayable_17 ?_
    refine zj_iload2 (n := 20) rfl dX0_unitsPayable_19 ?_
    refine zj_icmpN_ge (n := 23) (tgt := 66) rfl dX0_unitsPayable_20 (by decide) (by omega) (by omega) (fun c20 => by omega) (fun c20 => ?_)
    refine zj_aload0 (n := 24) rfl dX0_unitsPayable_23 ?_
    refine zj_aload1 (n := 25) rfl dX0_unitsPayable_24 ?_
    refine zj_iload5 (n := 27) rfl dX0_unitsPayable_25 ?_
    refine zj_callV2 (n := 30) (a' := 0) (b' := 0) rfl dX0_unitsPayable_27 zm_X0_110 (by decide) hu.lt (by rw [hu.ty]; rfl) (Nat.le_of_ble_eq_true rfl) (Nat.le_of_ble_eq_true rfl) (Nat.le_of_ble_eq_true rfl) (Nat.le_of_ble_eq_true rfl) (jX0_tenantAt hu hR hW hM (show i < (vord v 0).1 by omega) ?_)
    refine zj_iload3 (n := 31) rfl dX0_unitsPayable_30 ?_
    refine zj_icmpN_ne (n := 34) (tgt := 60) rfl dX0_unitsPayable_31 (by decide) (by omega) (by omega) (fun c31 => ?_) (fun c31 => ?_)
    · refine zj_iincN5 (n := 63) rfl dX0_unitsPayable_60 rfl (Nat.le_of_ble_eq_true rfl) ?_
      refine zj_goto (tgt := 17) dX0_unitsPayable_63 (by decide) ?_
      rw [if_neg c31] at hsc
      rw [hsc] at hk_i
      exact hk_i
    · rw [if_pos c31] at hsc
      refine zj_iload4 (n := 36) rfl dX0_unitsPayable_34 ?_
      refine zj_aload0 (n := 37) rfl dX0_unitsPayable_36 ?_
      refine zj_getr (n := 40) (q := u + 3) rfl dX0_unitsPayable_37 zf_X0_23 rfl hu.lt hu.ty rfl ?_
      refine zj_iload5 (n := 42) rfl dX0_unitsPayable_40 ?_
      refine zj_iconstN_1 (n := 43) rfl dX0_unitsPayable_42 ?_
      refine zj_callV2 (n := 46) (a' := 0) (b' := 0) rfl dX0_unitsPayable_43 zm_X0_50 (by decide) hu.lt3 (by rw [hu.ty3]; rfl) (Nat.le_of_ble_eq_true rfl) (Nat.le_of_ble_eq_true rfl) (Nat.le_of_ble_eq_true rfl) (Nat.le_of_ble_eq_true rfl) (jT_get (e := voff v 0 i) hM.1 (by omega) (by decide) (hM.2 _ (by omega)).2 ?_)
      refine zj_aload0 (n := 47) rfl dX0_unitsPayable_46 ?_
      refine zj_getr (n := 50) (q := u + 3) rfl dX0_unitsPayable_47 zf_X0_23 rfl hu.lt hu.ty rfl ?_
      refine zj_iload5 (n := 52) rfl dX0_unitsPayable_50 ?_
      refine zj_iconstN_2 (n := 53) rfl dX0_unitsPayable_52 ?_
      refine zj_callV2 (n := 56) (a' := 0) (b' := 0) rfl dX0_unitsPayable_53 zm_X0_50 (by decide) hu.lt3 (by rw [hu.ty3]; rfl) (Nat.le_of_ble_eq_true rfl) (Nat.le_of_ble_eq_true rfl) (Nat.le_of_ble_eq_true rfl) (Nat.le_of_ble_eq_true rfl) (jT_get (e := w i) hM.1 (by omega) (by decide) (hw i hi) ?_)
      refine zj_imulN (n := 57) rfl dX0_unitsPayable_56 ?_
      refine zj_isubN (n := 58) rfl dX0_unitsPayable_57 (by omega) ?_
      refine zj_istore4 (n := 60) rfl dX0_unitsPayable_58 rfl (Nat.le_of_ble_eq_true rfl) ?_
      refine zj_iincN5 (n := 63) rfl dX0_unitsPayable_60 rfl (Nat.le_of_ble_eq_true rfl) ?_
      refine zj_goto (tgt := 17) dX0_unitsPayable_63 (by decide) ?_
      rw [hsc, show vgrown v (vten v 0 k) - (vspent v 0 w (vten v 0 k) i + voff v 0 i * w i) = vgrown v (vten v 0 k) - vspent v 0 w (vten v 0 k) i - voff v 0 i * w i by omega] at hk_i
      exact hk_i
  · skip
    refine zj_iload5 (n := 19) rfl dX0_unitsPayable_17 ?_
    refine zj_iload2 (n := 20) rfl dX0_unitsPayable_19 ?_
    refine zj_icmpN_ge (n := 23) (tgt := 66) rfl dX0_unitsPayable_20 (by decide) (by omega) (by omega) (fun c20 => ?_) (fun c20 => by omega)
    refine zj_aload0 (n := 67) rfl dX0_unitsPayable_66 ?_
    refine zj_getr (n := 70) (q := u + 3) rfl dX0_unitsPayable_67 zf_X0_23 rfl hu.lt hu.ty rfl ?_
    refine zj_iload2 (n := 71) rfl dX0_unitsPayable_70 ?_
    refine zj_iconstN_1 (n := 72) rfl dX0_unitsPayable_71 ?_
    refine zj_callV2 (n := 75) (a' := 0) (b' := 0) rfl dX0_unitsPayable_72 zm_X0_50 (by decide) hu.lt3 (by rw [hu.ty3]; rfl) (Nat.le_of_ble_eq_true rfl) (Nat.le_of_ble_eq_true rfl) (Nat.le_of_ble_eq_true rfl) (Nat.le_of_ble_eq_true rfl) (jT_get (e := voff v 0 k) hM.1 (by omega) (by decide) (hM.2 _ (by omega)).2 ?_)
    refine zj_istore5 (n := 77) rfl dX0_unitsPayable_75 rfl (Nat.le_of_ble_eq_true rfl) ?_
    refine zj_iload5 (n := 79) rfl dX0_unitsPayable_77 ?_
    refine zj_ifN_le (n := 82) (tgt := 90) rfl dX0_unitsPayable_79 (by decide) (by omega) (fun c79 => by omega) (fun c79 => ?_)
    refine zj_iload4 (n := 84) rfl dX0_unitsPayable_82 ?_
    refine zj_iload5 (n := 86) rfl dX0_unitsPayable_84 ?_
    refine zj_idivN (n := 87) rfl dX0_unitsPayable_86 (by omega) (by omega) (by omega) ?_
    refine zj_goto (tgt := 91) dX0_unitsPayable_87 (by decide) ?_
    exact zj_ireturn dX0_unitsPayable_91 rfl rfl h
theorem jX0_priceAt {u r : Nat} {v : zV} {k : Nat} {Q : Option Value → zM → Prop} {X : String → zM → Prop} {M : zM} (hu : zAi u) (hR : zRg M r v) (hW : zWF v) (hM : zMb M u (voffer v 0) (vord v 0)) (hk : k < (vord v 0).1) (hc : M.1 u 2 = nI (vclr v)) (h : Q (some (.int (nI (vprice v 0 k)))) M) : zJ yX0_priceAt cX0_priceAt 3 (some .int) rX0_priceAt Q X rX0_priceAt.cells rX0_priceAt.slots 0 (zEnt 3 [.ref u, .ref r, .int (nI k)]) [] M := by
  obtain ⟨b1, b2, b3, b4, b5, b6, b7⟩ := vbidder hW hk
  have hn10 := vord_le hW 0
  have h8 := hW.gN
  have h7 := hW.tN
  have hv3 := hW.2.2.2.1
  show zJ yX0_priceAt cX0_priceAt 3 (some .int) rX0_priceAt Q X 0 0 0 [some (.ref u), some (.ref r), some (.int (nI k))] [] M
  refine zj_aload1 (n := 1) rfl dX0_priceAt_0 ?_
  refine zj_getiN (e := v 3) (n := 4) rfl dX0_priceAt_1 zf_X0_116 rfl hR.i.lt hR.i.ty (hR.s 3 (by decide)) ?_
  refine zj_ifN_ne (n := 7) (tgt := 17) rfl dX0_priceAt_4 (by decide) (by omega) (fun c4 => ?_) (fun c4 => ?_)
  · refine zj_aload1 (n := 18) rfl dX0_priceAt_17 ?_
    refine zj_getiN (e := v 3) (n := 21) rfl dX0_priceAt_18 zf_X0_116 rfl hR.i.lt hR.i.ty (hR.s 3 (by decide)) ?_
    refine zj_iconstN_1 (n := 22) rfl dX0_priceAt_21 ?_
    refine zj_icmpN_ne (n := 25) (tgt := 57) rfl dX0_priceAt_22 (by decide) (by omega) (by omega) (fun c22 => ?_) (fun c22 => ?_)
    · refine zj_aload0 (n := 58) rfl dX0_priceAt_57 ?_
      refine zj_getiN (e := vclr v) (n := 61) rfl dX0_priceAt_58 zf_X0_98 rfl hu.lt hu.ty hc ?_
      exact zj_ireturn dX0_priceAt_61 rfl rfl (zQi h (congrArg nI (by unfold vprice; rw [if_neg (by omega), if_pos (by omega)]; rfl)))
    · refine zj_iload2 (n := 26) rfl dX0_priceAt_25 ?_
      refine zj_iconstN_1 (n := 27) rfl dX0_priceAt_26 ?_
      refine zj_iaddN (n := 28) rfl dX0_priceAt_27 ?_
      refine zj_aload0 (n := 29) rfl dX0_priceAt_28 ?_
      refine zj_getr (n := 32) (q := u + 3) rfl dX0_priceAt_29 zf_X0_23 rfl hu.lt hu.ty rfl ?_
      refine zj_getiN (e := (vord v 0).1) (n := 35) rfl dX0_priceAt_32 zf_X0_35 rfl hu.lt3 hu.ty3 hM.1.2.2.2.1 ?_
      refine zj_icmpN_ge (n := 38) (tgt := 52) rfl dX0_priceAt_35 (by decide) (by omega) (by omega) (fun c35 => ?_) (fun c35 => ?_)
      · refine zj_aload1 (n := 53) rfl dX0_priceAt_52 ?_
        refine zj_getiN (e := v 2) (n := 56) rfl dX0_priceAt_53 zf_X0_88 rfl hR.i.lt hR.i.ty (hR.s 2 (by decide)) ?_
        exact zj_ireturn dX0_priceAt_56 rfl rfl (zQi h (congrArg nI (by unfold vprice; rw [if_neg (by omega), if_neg (by omega), if_neg (by omega)])))
      · refine zj_aload0 (n := 39) rfl dX0_priceAt_38 ?_
        refine zj_getr (n := 42) (q := u + 3) rfl dX0_priceAt_39 zf_X0_23 rfl hu.lt hu.ty rfl ?_
        refine zj_iload2 (n := 43) rfl dX0_priceAt_42 ?_
        refine zj_iconstN_1 (n := 44) rfl dX0_priceAt_43 ?_
        refine zj_iaddN (n := 45) rfl dX0_priceAt_44 ?_
        refine zj_iconstN_1 (n := 46) rfl dX0_priceAt_45 ?_
        refine zj_callV2 (n := 49) (a' := 0) (b' := 0) rfl dX0_priceAt_46 zm_X0_50 (by decide) hu.lt3 (by rw [hu.ty3]; rfl) (Nat.le_of_ble_eq_true rfl) (Nat.le_of_ble_eq_true rfl) (Nat.le_of_ble_eq_true rfl) (Nat.le_of_ble_eq_true rfl) (jT_get (e := voff v 0 (k + 1)) hM.1 (by omega) (by decide) (hM.2 _ (by omega)).2 ?_)
        refine zj_goto (tgt := 56) dX0_priceAt_49 (by decide) ?_
        exact zj_ireturn dX0_priceAt_56 rfl rfl (zQi h (congrArg nI (by unfold vprice; rw [if_neg (by omega), if_neg (by omega), if_pos c35])))
  · refine zj_aload0 (n := 8) rfl dX0_priceAt_7 ?_
    refine zj_getr (n := 11) (q := u + 3) rfl dX0_priceAt_8 zf_X0_23 rfl hu.lt hu.ty rfl ?_
    refine zj_iload2 (n := 12) rfl dX0_priceAt_11 ?_
    refine zj_iconstN_1 (n := 13) rfl dX0_priceAt_12 ?_
    refine zj_callV2 (n := 16) (a' := 0) (b' := 0) rfl dX0_priceAt_13 zm_X0_50 (by decide) hu.lt3 (by rw [hu.ty3]; rfl) (Nat.le_of_ble_eq_true rfl) (Nat.le_of_ble_eq_true rfl) (Nat.le_of_ble_eq_true rfl) (Nat.le_of_ble_eq_true rfl) (jT_get (e := voff v 0 k) hM.1 (by omega) (by decide) (hM.2 _ (by omega)).2 ?_)
    exact zj_ireturn dX0_priceAt_16 rfl rfl (zQi h (congrArg nI (by unfold vprice; rw [if_pos c4])))
theorem vsellk_sum {v : zV} {d : Nat} : ∀ k, (vsellk v d k).1 + vsum (vsellk v d k).2.2.2 k = v 0 + v 4 := by
  intro k
  induction k with
  | zero => rfl
  | succ k ih =>
    obtain ⟨u1, u2, u3⟩ := vunit_le v d k (vsellk v d k)
    rw [vsellk_succ]
    dsimp only
    rw [vsum_succ, if_pos rfl]
    have : vsum (fun j => if j = k then vunit v d k (vsellk v d k) else (vsellk v d k).2.2.2 j) k = vsum (vsellk v d k).2.2.2 k := by
      unfold vsum
      exact zFor_congr (fun i t hi => by dsimp only; rw [if_neg (show ¬ i = k by omega)])
    omega
theorem vsold_eq {v : zV} : v 0 + v 4 - (vsell v 0).1 = vsold v := by
  have := vsellk_sum (v := v) (d := 0) (vord v 0).1
  have e : vsold v = vsum (vsellk v 0 (vord v 0).1).2.2.2 (vord v 0).1 := rfl
  have e2 : vsell v 0 = vsellk v 0 (vord v 0).1 := rfl
  rw [e, e2]
  omega
theorem jX0_sell {u r : Nat} {v : zV} {Q : Option Value → zM → Prop} {X : String → zM → Prop} {M : zM} (hu : zAi u) (hR : zRg M r v) (hW : zWF v) (hM : zMb M u (voffer v 0) (vord v 0)) (h : ∀ M', zAf u M M' → zMb M' u (voffer v 0) (vord v 0) → (∀ i, i < (vord v 0).1 → M'.1 (u + 4) (i * 4 + 2) = nI (vunits v 0 i)) → M'.1 u 2 = nI (vclr v) → M'.1 u 3 = nI (vsold v) → Q none M') : zJ yX0_sell cX0_sell 7 none rX0_sell Q X rX0_sell.cells rX0_sell.slots 0 (zEnt 7 [.ref u, .ref r]) [] M := by
  have hn10 := vord_le hW 0
  have hw0 := hW.1
  have hw4 := hW.2.2.2.2.1
  show zJ yX0_sell cX0_sell 7 none rX0_sell Q X 0 0 0 [some (.ref u), some (.ref r), none, none, none, none, none] [] M
  refine zj_aload0 (n := 1) rfl dX0_sell_0 ?_
  refine zj_iconstN_0 (n := 2) rfl dX0_sell_1 ?_
  refine zj_puti (n := 5) rfl dX0_sell_2 zp_X0_95 rfl hu.lt hu.ty ?_
  have hR1 : zRg (zU M.1 u 3 (nI 0), M.2) r v := (zAf.rf.put (u := u) (M := M) (k := u) (j := 3) (x := nI 0) (by omega)).rg hu hR
  refine zj_aload0 (n := 6) rfl dX0_sell_5 ?_
  refine zj_aload1 (n := 7) rfl dX0_sell_6 ?_
  refine zj_getiN (e := v 2) (n := 10) rfl dX0_sell_7 zf_X0_88 rfl hR.i.lt hR.i.ty ((hR1).s 2 (by decide)) ?_
  refine zj_puti (n := 13) rfl dX0_sell_10 zp_X0_98 rfl hu.lt hu.ty ?_
  refine zj_iconstN_0 (n := 14) rfl dX0_sell_13 ?_
  refine zj_istore2 (n := 15) rfl dX0_sell_14 rfl (Nat.le_of_ble_eq_true rfl) ?_
  refine zj_iconstN_0 (n := 16) rfl dX0_sell_15 ?_
  refine zj_istore3 (n := 17) rfl dX0_sell_16 rfl (Nat.le_of_ble_eq_true rfl) ?_
  refine zj_sub (l' := [some (.ref u), some (.ref r), some (.int (zb (vsellk v 0 0).2.1)), some (.int (nI 0)), none, none, none]) (by simp only [zLe, eq_self, and_true, true_and, Value.int.injEq]; exact rfl) ?_
  refine zFor_rule (P := fun k (_ : Unit) => ∀ M1, zAf u M M1 → zMb M1 u (voffer v 0) (vord v 0) → (∀ i, i < k → M1.1 (u + 4) (i * 4 + 2) = nI ((vsellk v 0 k).2.2.2 i)) → M1.1 u 2 = nI (vsellk v 0 k).2.2.1 → M1.1 u 3 = nI (v 0 + v 4 - (vsellk v 0 k).1) → zJ yX0_sell cX0_sell 7 none rX0_sell Q X 0 0 17 [some (.ref u), some (.ref r), some (.int (zb ((vsellk v 0 k).2.1))), some (.int (nI k)), none, none, none] [] M1) (n := (vord v 0).1) (f := fun _ s => s) (s0 := ()) ?_ ?_ _ ((zAf.rf.put (k := u) (by omega)).put (k := u) (by omega)) (hM.cg (by dsimp only; rw [zU_off (by omega), zU_off (by omega)]) (fun i c hi hc => by dsimp only; rw [zU_ne (by omega), zU_ne (by omega)])) (fun i hi => absurd hi (Nat.not_lt_zero i)) (by dsimp only; exact zU_eq) (by dsimp only; rw [zU_nj (by decide), zU_eq]; exact congrArg nI (show 0 = v 0 + v 4 - (v 0 + v 4) by omega))
  · intro k _ hk9 hk M1 hA1 hM1 hu1 hc1 hs1
    obtain ⟨s1, s2, s3, s4, s5, s6, s7⟩ := vsellk_ok hW k (Nat.le_of_lt hk9)
    obtain ⟨b1, b2, b3, b4, b5, b6, b7⟩ := vbidder hW hk9
    have hgr := vgrown_le hW b2
    have hcn : vcanp v 0 (vsellk v 0 k).2.2.2 k < 2 ^ 31 := Nat.lt_of_le_of_lt (Nat.div_le_self _ _) (by omega)
    obtain ⟨u1, u2, u3⟩ := vunit_le v 0 k (vsellk v 0 k)
    refine zj_iload3 (n := 18) rfl dX0_sell_17 ?_
    refine zj_aload0 (n := 19) rfl dX0_sell_18 ?_
    refine zj_getr (n := 22) (q := u + 3) rfl dX0_sell_19 zf_X0_23 rfl hu.lt hu.ty rfl ?_
    refine zj_getiN (e := (vord v 0).1) (n := 25) rfl dX0_sell_22 zf_X0_35 rfl hu.lt3 hu.ty3 hM1.1.2.2.2.1 ?_
    refine zj_icmpN_ge (n := 28) (tgt := 133) rfl dX0_sell_25 (by decide) (by omega) (by omega) (fun c25 => by omega) (fun c25 => ?_)
    refine zj_aload1 (n := 29) rfl dX0_sell_28 ?_
    refine zj_aload0 (n := 30) rfl dX0_sell_29 ?_
    refine zj_getr (n := 33) (q := u + 3) rfl dX0_sell_30 zf_X0_23 rfl hu.lt hu.ty rfl ?_
    refine zj_iload3 (n := 34) rfl dX0_sell_33 ?_
    refine zj_iconstN_0 (n := 35) rfl dX0_sell_34 ?_
    refine zj_callV2 (n := 38) (a' := 0) (b' := 0) rfl dX0_sell_35 zm_X0_50 (by decide) hu.lt3 (by rw [hu.ty3]; rfl) (Nat.le_of_ble_eq_true rfl) (Nat.le_of_ble_eq_true rfl) (Nat.le_of_ble_eq_true rfl) (Nat.le_of_ble_eq_true rfl) (jT_get (e := (vord v 0).2 k) hM1.1 (by omega) (by decide) (hM1.2 _ (by omega)).1 ?_)
    refine zj_callV1 (n := 41) (a' := 0) (b' := 0) rfl dX0_sell_38 zm_X0_75 (by decide) hR.i.lt (by rw [hR.i.ty]; rfl) (Nat.le_of_ble_eq_true rfl) (Nat.le_of_ble_eq_true rfl) (Nat.le_of_ble_eq_true rfl) (Nat.le_of_ble_eq_true rfl) (jX6_needOf (hA1.rg hu hR) hW b1 ?_)
    rw [show vneed v 0 ((vord v 0).2 k) = vnd v 0 k from rfl]
    refine zj_istore4 (n := 43) rfl dX0_sell_41 rfl (Nat.le_of_ble_eq_true rfl) ?_
    refine zj_aload0 (n := 44) rfl dX0_sell_43 ?_
    refine zj_aload1 (n := 45) rfl dX0_sell_44 ?_
    refine zj_iload3 (n := 46) rfl dX0_sell_45 ?_
    refine zj_callV2 (n := 49) (a' := 0) (b' := 0) rfl dX0_sell_46 zm_X0_101 (by decide) hu.lt (by rw [hu.ty]; rfl) (Nat.le_of_ble_eq_true rfl) (Nat.le_of_ble_eq_true rfl) (Nat.le_of_ble_eq_true rfl) (Nat.le_of_ble_eq_true rfl) (jX0_unitsPayable hu (hA1.rg hu hR) hW hM1 hk9 hu1 (fun i hi => Nat.le_trans (s2 i hi) (vbidder hW (Nat.lt_trans hi hk9)).2.2.2.2.2.1) (s3 _ b2) ?_)
    refine zj_istore5 (n := 51) rfl dX0_sell_49 rfl (Nat.le_of_ble_eq_true rfl) ?_
    refine zj_iload4 (n := 53) rfl dX0_sell_51 ?_
    refine zj_iload5 (n := 55) rfl dX0_sell_53 ?_
    refine zj_iminN (n := 58) rfl dX0_sell_55 zm_X0_104 (by decide) (Nat.le_of_ble_eq_true rfl) (by omega) (by omega) ?_
    refine zj_aload1 (n := 59) rfl dX0_sell_58 ?_
    refine zj_callV0 (n := 62) (a' := 0) (b' := 0) rfl dX0_sell_59 zm_X0_106 (by decide) hR.i.lt (by rw [hR.i.ty]; rfl) (Nat.le_of_ble_eq_true rfl) (Nat.le_of_ble_eq_true rfl) (Nat.le_of_ble_eq_true rfl) (Nat.le_of_ble_eq_true rfl) (jX6_unitsAtHand (hA1.rg hu hR) hW ?_)
    refine zj_aload0 (n := 63) rfl dX0_sell_62 ?_
    refine zj_getiN (e := v 0 + v 4 - (vsellk v 0 k).1) (n := 66) rfl dX0_sell_63 zf_X0_95 rfl hu.lt hu.ty hs1 ?_
    refine zj_isubN (n := 67) rfl dX0_sell_66 (by omega) ?_
    refine zj_iminN (n := 70) rfl dX0_sell_67 zm_X0_104 (by decide) (Nat.le_of_ble_eq_true rfl) (by omega) (by omega) ?_
    refine zj_istore6 (n := 72) rfl dX0_sell_70 rfl (Nat.le_of_ble_eq_true rfl) ?_
    rw [show min (min (vnd v 0 k) (vcanp v 0 (vsellk v 0 k).2.2.2 k)) (v 0 + v 4 - (v 0 + v 4 - (vsellk v 0 k).1)) = vunit v 0 k (vsellk v 0 k) by unfold vunit; omega]
    refine zj_iload2 (n := 73) rfl dX0_sell_72 ?_
    refine zj_ifB_ne (n := 76) (tgt := 105) rfl dX0_sell_73 (by decide) (fun c73 => ?_) (fun c73 => ?_)
    · refine zj_aload0 (n := 106) rfl dX0_sell_105 ?_
      refine zj_getr (n := 109) (q := u + 3) rfl dX0_sell_106 zf_X0_23 rfl hu.lt hu.ty rfl ?_
      refine zj_iload3 (n := 110) rfl dX0_sell_109 ?_
      refine zj_iconstN_2 (n := 111) rfl dX0_sell_110 ?_
      refine zj_iload6 (n := 113) rfl dX0_sell_111 ?_
      refine zj_callV3 (n := 116) (a' := 0) (b' := 0) rfl dX0_sell_113 zm_X0_57 (by decide) hu.lt3 (by rw [hu.ty3]; rfl) (Nat.le_of_ble_eq_true rfl) (Nat.le_of_ble_eq_true rfl) (Nat.le_of_ble_eq_true rfl) (Nat.le_of_ble_eq_true rfl) (jT_set (hM1.1) hk9 (by decide) ?_)
      refine zj_aload0 (n := 117) rfl dX0_sell_116 ?_
      refine zj_dupr (n := 118) rfl dX0_sell_117 ?_
      refine zj_getiN (e := v 0 + v 4 - (vsellk v 0 k).1) (n := 121) rfl dX0_sell_118 zf_X0_95 rfl hu.lt hu.ty (by dsimp only; rw [zU_ne (by omega)]; exact hs1) ?_
      refine zj_iload6 (n := 123) rfl dX0_sell_121 ?_
      refine zj_iaddN (n := 124) rfl dX0_sell_123 ?_
      refine zj_puti (n := 127) rfl dX0_sell_124 zp_X0_95 rfl hu.lt hu.ty ?_
      refine zj_iincN3 (n := 130) rfl dX0_sell_127 rfl (Nat.le_of_ble_eq_true rfl) ?_
      refine zj_goto (tgt := 17) dX0_sell_130 (by decide) ?_
      refine zj_keep [true, true, true, true, false, false, false] ?_
      have e9 := vsellk_same (v := v) (d := 0) (k := k) (Or.inl c73)
      rw [e9] at hk
      refine hk (zU (zU M1.1 (u + 3 + 1) (k * 4 + 2) (nI (vunit v 0 k (vsellk v 0 k)))) u 3 (nI (v 0 + v 4 - (vsellk v 0 k).1 + (vunit v 0 k (vsellk v 0 k)))), M1.2) ((hA1.put (by omega)).put (by omega)) (hM1.cg (by dsimp only; rw [zU_off (by omega), zU_off (by omega)]) (fun i c hi hc => by dsimp only; rw [zU_ne (by omega), zU_nj (by omega)])) (fun i hi => ?_) ?_ ?_
      · dsimp only
        rw [zU_ne (by omega)]
        by_cases q : i = k
        · subst q; rw [if_pos rfl]; exact zU_eq
        · rw [if_neg q, zU_nj (by omega)]; exact hu1 i (by omega)
      · dsimp only
        rw [zU_nj (by decide), zU_ne (by omega)]
        exact hc1
      · dsimp only
        rw [zU_eq]
        exact congrArg nI (by omega)
    · refine zj_iload6 (n := 78) rfl dX0_sell_76 ?_
      refine zj_iload4 (n := 80) rfl dX0_sell_78 ?_
      refine zj_icmpN_ge (n := 83) (tgt := 105) rfl dX0_sell_80 (by decide) (by omega) (by omega) (fun c80 => ?_) (fun c80 => ?_)
      · refine zj_aload0 (n := 106) rfl dX0_sell_105 ?_
        refine zj_getr (n := 109) (q := u + 3) rfl dX0_sell_106 zf_X0_23 rfl hu.lt hu.ty rfl ?_
        refine zj_iload3 (n := 110) rfl dX0_sell_109 ?_
        refine zj_iconstN_2 (n := 111) rfl dX0_sell_110 ?_
        refine zj_iload6 (n := 113) rfl dX0_sell_111 ?_
        refine zj_callV3 (n := 116) (a' := 0) (b' := 0) rfl dX0_sell_113 zm_X0_57 (by decide) hu.lt3 (by rw [hu.ty3]; rfl) (Nat.le_of_ble_eq_true rfl) (Nat.le_of_ble_eq_true rfl) (Nat.le_of_ble_eq_true rfl) (Nat.le_of_ble_eq_true rfl) (jT_set (hM1.1) hk9 (by decide) ?_)
        refine zj_aload0 (n := 117) rfl dX0_sell_116 ?_
        refine zj_dupr (n := 118) rfl dX0_sell_117 ?_
        refine zj_getiN (e := v 0 + v 4 - (vsellk v 0 k).1) (n := 121) rfl dX0_sell_118 zf_X0_95 rfl hu.lt hu.ty (by dsimp only; rw [zU_ne (by omega)]; exact hs1) ?_
        refine zj_iload6 (n := 123) rfl dX0_sell_121 ?_
        refine zj_iaddN (n := 124) rfl dX0_sell_123 ?_
        refine zj_puti (n := 127) rfl dX0_sell_124 zp_X0_95 rfl hu.lt hu.ty ?_
        refine zj_iincN3 (n := 130) rfl dX0_sell_127 rfl (Nat.le_of_ble_eq_true rfl) ?_
        refine zj_goto (tgt := 17) dX0_sell_130 (by decide) ?_
        refine zj_keep [true, true, true, true, false, false, false] ?_
        have e9 := vsellk_same (v := v) (d := 0) (k := k) (Or.inr (by unfold vcut; rw [decide_eq_false (by omega), Bool.false_and]))
        rw [e9] at hk
        refine hk (zU (zU M1.1 (u + 3 + 1) (k * 4 + 2) (nI (vunit v 0 k (vsellk v 0 k)))) u 3 (nI (v 0 + v 4 - (vsellk v 0 k).1 + (vunit v 0 k (vsellk v 0 k)))), M1.2) ((hA1.put (by omega)).put (by omega)) (hM1.cg (by dsimp only; rw [zU_off (by omega), zU_off (by omega)]) (fun i c hi hc => by dsimp only; rw [zU_ne (by omega), zU_nj (by omega)])) (fun i hi => ?_) ?_ ?_
        · dsimp only
          rw [zU_ne (by omega)]
          by_cases q : i = k
          · subst q; rw [if_pos rfl]; exact zU_eq
          · rw [if_neg q, zU_nj (by omega)]; exact hu1 i (by omega)
        · dsimp only
          rw [zU_nj (by decide), zU_ne (by omega)]
          exact hc1
        · dsimp only
          rw [zU_eq]
          exact congrArg nI (by omega)
      · refine zj_iload6 (n := 85) rfl dX0_sell_83 ?_
        refine zj_iload5 (n := 87) rfl dX0_sell_85 ?_
        refine zj_icmpN_ge (n := 90) (tgt := 105) rfl dX0_sell_87 (by decide) (by omega) (by omega) (fun c87 => ?_) (fun c87 => ?_)
        · refine zj_aload0 (n := 106) rfl dX0_sell_105 ?_
          refine zj_getr (n := 109) (q := u + 3) rfl dX0_sell_106 zf_X0_23 rfl hu.lt hu.ty rfl ?_
          refine zj_iload3 (n := 110) rfl dX0_sell_109 ?_
          refine zj_iconstN_2 (n := 111) rfl dX0_sell_110 ?_
          refine zj_iload6 (n := 113) rfl dX0_sell_111 ?_
          refine zj_callV3 (n := 116) (a' := 0) (b' := 0) rfl dX0_sell_113 zm_X0_57 (by decide) hu.lt3 (by rw [hu.ty3]; rfl) (Nat.le_of_ble_eq_true rfl) (Nat.le_of_ble_eq_true rfl) (Nat.le_of_ble_eq_true rfl) (Nat.le_of_ble_eq_true rfl) (jT_set (hM1.1) hk9 (by decide) ?_)
          refine zj_aload0 (n := 117) rfl dX0_sell_116 ?_
          refine zj_dupr (n := 118) rfl dX0_sell_117 ?_
          refine zj_getiN (e := v 0 + v 4 - (vsellk v 0 k).1) (n := 121) rfl dX0_sell_118 zf_X0_95 rfl hu.lt hu.ty (by dsimp only; rw [zU_ne (by omega)]; exact hs1) ?_
          refine zj_iload6 (n := 123) rfl dX0_sell_121 ?_
          refine zj_iaddN (n := 124) rfl dX0_sell_123 ?_
          refine zj_puti (n := 127) rfl dX0_sell_124 zp_X0_95 rfl hu.lt hu.ty ?_
          refine zj_iincN3 (n := 130) rfl dX0_sell_127 rfl (Nat.le_of_ble_eq_true rfl) ?_
          refine zj_goto (tgt := 17) dX0_sell_130 (by decide) ?_
          refine zj_keep [true, true, true, true, false, false, false] ?_
          have e9 := vsellk_same (v := v) (d := 0) (k := k) (Or.inr (by unfold vcut; rw [decide_eq_false (show ¬ vcanp v 0 (vsellk v 0 k).2.2.2 k ≠ vunit v 0 k (vsellk v 0 k) by omega), Bool.and_false]))
          rw [e9] at hk
          refine hk (zU (zU M1.1 (u + 3 + 1) (k * 4 + 2) (nI (vunit v 0 k (vsellk v 0 k)))) u 3 (nI (v 0 + v 4 - (vsellk v 0 k).1 + (vunit v 0 k (vsellk v 0 k)))), M1.2) ((hA1.put (by omega)).put (by omega)) (hM1.cg (by dsimp only; rw [zU_off (by omega), zU_off (by omega)]) (fun i c hi hc => by dsimp only; rw [zU_ne (by omega), zU_nj (by omega)])) (fun i hi => ?_) ?_ ?_
          · dsimp only
            rw [zU_ne (by omega)]
            by_cases q : i = k
            · subst q; rw [if_pos rfl]; exact zU_eq
            · rw [if_neg q, zU_nj (by omega)]; exact hu1 i (by omega)
          · dsimp only
            rw [zU_nj (by decide), zU_ne (by omega)]
            exact hc1
          · dsimp only
            rw [zU_eq]
            exact congrArg nI (by omega)
        · refine zj_iconstN_1 (n := 91) rfl dX0_sell_90 ?_
          refine zj_istore2 (n := 92) rfl dX0_sell_91 rfl (Nat.le_of_ble_eq_true rfl) ?_
          refine zj_aload0 (n := 93) rfl dX0_sell_92 ?_
          refine zj_aload0 (n := 94) rfl dX0_sell_93 ?_
          refine zj_getr (n := 97) (q := u + 3) rfl dX0_sell_94 zf_X0_23 rfl hu.lt hu.ty rfl ?_
          refine zj_iload3 (n := 98) rfl dX0_sell_97 ?_
          refine zj_iconstN_1 (n := 99) rfl dX0_sell_98 ?_
          refine zj_callV2 (n := 102) (a' := 0) (b' := 0) rfl dX0_sell_99 zm_X0_50 (by decide) hu.lt3 (by rw [hu.ty3]; rfl) (Nat.le_of_ble_eq_true rfl) (Nat.le_of_ble_eq_true rfl) (Nat.le_of_ble_eq_true rfl) (Nat.le_of_ble_eq_true rfl) (jT_get (e := voff v 0 k) hM1.1 (by omega) (by decide) (hM1.2 _ (by omega)).2 ?_)
          refine zj_puti (n := 105) rfl dX0_sell_102 zp_X0_98 rfl hu.lt hu.ty ?_
          refine zj_aload0 (n := 106) rfl dX0_sell_105 ?_
          refine zj_getr (n := 109) (q := u + 3) rfl dX0_sell_106 zf_X0_23 rfl hu.lt hu.ty rfl ?_
          refine zj_iload3 (n := 110) rfl dX0_sell_109 ?_
          refine zj_iconstN_2 (n := 111) rfl dX0_sell_110 ?_
          refine zj_iload6 (n := 113) rfl dX0_sell_111 ?_
          refine zj_callV3 (n := 116) (a' := 0) (b' := 0) rfl dX0_sell_113 zm_X0_57 (by decide) hu.lt3 (by rw [hu.ty3]; rfl) (Nat.le_of_ble_eq_true rfl) (Nat.le_of_ble_eq_true rfl) (Nat.le_of_ble_eq_true rfl) (Nat.le_of_ble_eq_true rfl) (jT_set (hM1.1.cg (zU_off (by omega))) hk9 (by decide) ?_)
          refine zj_aload0 (n := 117) rfl dX0_sell_116 ?_
          refine zj_dupr (n := 118) rfl dX0_sell_117 ?_
          refine zj_getiN (e := v 0 + v 4 - (vsellk v 0 k).1) (n := 121) rfl dX0_sell_118 zf_X0_95 rfl hu.lt hu.ty (by dsimp only; rw [zU_ne (by omega), zU_nj (by decide)]; exact hs1) ?_
          refine zj_iload6 (n := 123) rfl dX0_sell_121 ?_
          refine zj_iaddN (n := 124) rfl dX0_sell_123 ?_
          refine zj_puti (n := 127) rfl dX0_sell_124 zp_X0_95 rfl hu.lt hu.ty ?_
          refine zj_iincN3 (n := 130) rfl dX0_sell_127 rfl (Nat.le_of_ble_eq_true rfl) ?_
          refine zj_goto (tgt := 17) dX0_sell_130 (by decide) ?_
          refine zj_keep [true, true, true, true, false, false, false] ?_
          have e9 := vsellk_new (v := v) (d := 0) (k := k) c73 (by unfold vcut; rw [decide_eq_true (by omega), decide_eq_true (by omega)]; rfl)
          rw [e9] at hk
          refine hk (zU (zU (zU M1.1 u 2 (nI (voff v 0 k))) (u + 3 + 1) (k * 4 + 2) (nI (vunit v 0 k (vsellk v 0 k)))) u 3 (nI (v 0 + v 4 - (vsellk v 0 k).1 + (vunit v 0 k (vsellk v 0 k)))), M1.2) (((hA1.put (Or.inl rfl)).put (by omega)).put (by omega)) (hM1.cg (by dsimp only; rw [zU_off (by omega), zU_off (by omega), zU_off (by omega)]) (fun i c hi hc => by dsimp only; rw [zU_ne (by omega), zU_nj (by omega), zU_ne (by omega)])) (fun i hi => ?_) ?_ ?_
          · dsimp only
            rw [zU_ne (by omega)]
            by_cases q : i = k
            · subst q; rw [if_pos rfl]; exact zU_eq
            · rw [if_neg q, zU_nj (by omega), zU_ne (by omega)]; exact hu1 i (by omega)
          · dsimp only
            rw [zU_nj (by decide), zU_ne (by omega)]; exact zU_eq
          · dsimp only
            rw [zU_eq]
            exact congrArg nI (by omega)
  · intro M1 hA1 hM1 hu1 hc1 hs1
    refine zj_iload3 (n := 18) rfl dX0_sell_17 ?_
    refine zj_aload0 (n := 19) rfl dX0_sell_18 ?_
    refine zj_getr (n := 22) (q := u + 3) rfl dX0_sell_19 zf_X0_23 rfl hu.lt hu.ty rfl ?_
    refine zj_getiN (e := (vord v 0).1) (n := 25) rfl dX0_sell_22 zf_X0_35 rfl hu.lt3 hu.ty3 hM1.1.2.2.2.1 ?_
    refine zj_icmpN_ge (n := 28) (tgt := 133) rfl dX0_sell_25 (by decide) (by omega) (by omega) (fun c25 => ?_) (fun c25 => by omega)
    exact zj_return dX0_sell_133 rfl (h M1 hA1 hM1 hu1 hc1 (by rw [hs1]; exact congrArg nI vsold_eq))
