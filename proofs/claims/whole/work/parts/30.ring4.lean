/-! THE CLASS'S RINGS: sets, needs -/
theorem jX6_availableSet {r : Nat} {v : zV} {g d : Nat} {Q : Option Value → zM → Prop} {X : String → zM → Prop} {M : zM} (hR : zRg M r v) (hW : zWF v) (hg : g < v 8) (hd2 : d < 2 ^ 16) (h : Q (some (.int (nI (zMask (vsh v g) (fun s => vav v d g s))))) M) : zJ yX6_availableSet cX6_availableSet 7 (some .int) rX6_availableSet Q X rX6_availableSet.cells rX6_availableSet.slots 0 (zEnt 7 [.ref r, .int (nI g), .int (nI d)]) [] M := by
  have hgh := hW.gh hg
  have h6 := hW.nN
  have h8 := hW.gN
  have hsh := (hW.sh hg).2
  have hgr := hW.grp hg
  show zJ yX6_availableSet cX6_availableSet 7 (some .int) rX6_availableSet Q X 0 0 0 [some (.ref r), some (.int (nI g)), some (.int (nI d)), none, none, none, none] [] M
  refine zj_iconstN_0 (n := 1) rfl dX6_availableSet_0 ?_
  refine zj_istore3 (n := 2) rfl dX6_availableSet_1 rfl (Nat.le_of_ble_eq_true rfl) ?_
  refine zj_aload0 (n := 3) rfl dX6_availableSet_2 ?_
  refine zj_getr (n := 6) (q := r + 5) rfl dX6_availableSet_3 zf_X6_23 rfl hR.i.lt hR.i.ty rfl ?_
  refine zj_iload1 (n := 7) rfl dX6_availableSet_6 ?_
  refine zj_bipushN (v := 9) (n := 9) rfl dX6_availableSet_7 (by decide) ?_
  refine zj_callV2 (n := 12) (a' := 0) (b' := 0) rfl dX6_availableSet_9 zm_X6_58 (by decide) (hR.i.ltc (c := 5) (by decide)) (by rw [(hR.i.ty1 (c := 5) (by decide))]; rfl) (Nat.le_of_ble_eq_true rfl) (Nat.le_of_ble_eq_true rfl) (Nat.le_of_ble_eq_true rfl) (Nat.le_of_ble_eq_true rfl) (jT_get hR.g.1 (by omega) (by decide) (hR.g.n (by omega)) ?_)
  refine zj_istore4 (n := 14) rfl dX6_availableSet_12 rfl (Nat.le_of_ble_eq_true rfl) ?_
  refine zj_iconstN_0 (n := 15) rfl dX6_availableSet_14 ?_
  refine zj_istore5 (n := 17) rfl dX6_availableSet_15 rfl (Nat.le_of_ble_eq_true rfl) ?_
  refine zFor_rule (P := fun s (_ : Unit) => ∀ x, x = zMask s (fun s => vav v d g s) → zJ yX6_availableSet cX6_availableSet 7 (some .int) rX6_availableSet Q X 0 0 17 [some (.ref r), some (.int (nI g)), some (.int (nI d)), some (.int (nI x)), some (.int (nI (vsh v g))), some (.int (nI s)), none] [] M) (n := vsh v g) (f := fun _ s => s) (s0 := ()) ?_ ?_ 0 rfl
  · intro s _ hs hk x hx
    refine zj_iload5 (n := 19) rfl dX6_availableSet_17 ?_
    refine zj_iload4 (n := 21) rfl dX6_availableSet_19 ?_
    refine zj_icmpN_ge (n := 24) (tgt := 75) rfl dX6_availableSet_21 (by decide) (by omega) (by omega) (fun c21 => by omega) (fun c21 => ?_)
    refine zj_aload0 (n := 25) rfl dX6_availableSet_24 ?_
    refine zj_getr (n := 28) (q := r + 5) rfl dX6_availableSet_25 zf_X6_23 rfl hR.i.lt hR.i.ty rfl ?_
    refine zj_iload1 (n := 29) rfl dX6_availableSet_28 ?_
    refine zj_bipushN (v := 10) (n := 31) rfl dX6_availableSet_29 (by decide) ?_
    refine zj_iload5 (n := 33) rfl dX6_availableSet_31 ?_
    refine zj_iaddN (n := 34) rfl dX6_availableSet_33 ?_
    refine zj_callV2 (n := 37) (a' := 0) (b' := 0) rfl dX6_availableSet_34 zm_X6_58 (by decide) (hR.i.ltc (c := 5) (by decide)) (by rw [(hR.i.ty1 (c := 5) (by decide))]; rfl) (Nat.le_of_ble_eq_true rfl) (Nat.le_of_ble_eq_true rfl) (Nat.le_of_ble_eq_true rfl) (Nat.le_of_ble_eq_true rfl) (jT_get (e := hol v g s) hR.g.1 (by omega) (by omega) (hR.g.sh (by omega) (by omega)) ?_)
    refine zj_istore6 (n := 39) rfl dX6_availableSet_37 rfl (Nat.le_of_ble_eq_true rfl) ?_
    have hh : hol v g s < v 6 := hW.holds hg hs
    have hn4 : v (10 + 12 * hol v g s + 4) ≤ 2 := (hW.node hh).2.2.2.2
    refine zj_aload0 (n := 40) rfl dX6_availableSet_39 ?_
    refine zj_getr (n := 43) (q := r + 1) rfl dX6_availableSet_40 zf_X6_14 rfl hR.i.lt hR.i.ty rfl ?_
    refine zj_iload6 (n := 45) rfl dX6_availableSet_43 ?_
    refine zj_iconstN_5 (n := 46) rfl dX6_availableSet_45 ?_
    refine zj_callV2 (n := 49) (a' := 0) (b' := 0) rfl dX6_availableSet_46 zm_X6_58 (by decide) (hR.i.ltc (c := 1) (by decide)) (by rw [(hR.i.ty1 (c := 1) (by decide))]; rfl) (Nat.le_of_ble_eq_true rfl) (Nat.le_of_ble_eq_true rfl) (Nat.le_of_ble_eq_true rfl) (Nat.le_of_ble_eq_true rfl) (jT_get hR.n.1 (by omega) (by decide) (hR.n.c5 (by omega)) ?_)
    refine zj_iconstN_1 (n := 50) rfl dX6_availableSet_49 ?_
    refine zj_icmpN_eq (n := 53) (tgt := 69) rfl dX6_availableSet_50 (by decide) (by omega) (by omega) (fun c50 => ?_) (fun c50 => ?_)
    · refine zj_iincN5 (n := 72) rfl dX6_availableSet_69 rfl (Nat.le_of_ble_eq_true rfl) ?_
      refine zj_goto (tgt := 17) dX6_availableSet_72 (by decide) ?_
      refine zj_keep [true, true, true, true, true, true, false] ?_
      exact hk _ (zmn hx (by unfold vav; rw [show (nd v (hol v g s) 4 != 1) = false from by simpa using c50]; rfl))
    · refine zj_iload2 (n := 54) rfl dX6_availableSet_53 ?_
      refine zj_iload6 (n := 56) rfl dX6_availableSet_54 ?_
      refine zj_ishrN (n := 57) rfl dX6_availableSet_56 (by omega) (by omega) ?_
      refine zj_iconstN_1 (n := 58) rfl dX6_availableSet_57 ?_
      refine zj_iandN1 (n := 59) rfl dX6_availableSet_58 (Nat.lt_of_le_of_lt (Nat.div_le_self _ _) (by omega)) ?_
      refine zj_ifN_ne (n := 62) (tgt := 69) rfl dX6_availableSet_59 (by decide) (by omega) (fun c59 => ?_) (fun c59 => ?_)
      · refine zj_iincN5 (n := 72) rfl dX6_availableSet_69 rfl (Nat.le_of_ble_eq_true rfl) ?_
        refine zj_goto (tgt := 17) dX6_availableSet_72 (by decide) ?_
        refine zj_keep [true, true, true, true, true, true, false] ?_
        exact hk _ (zmn hx (by unfold vav; rw [ztb c59, Bool.not_true, Bool.and_false]))
      · refine zj_iload3 (n := 63) rfl dX6_availableSet_62 ?_
        refine zj_iconstN_1 (n := 64) rfl dX6_availableSet_63 ?_
        refine zj_iload5 (n := 66) rfl dX6_availableSet_64 ?_
        refine zj_ishlN1 (n := 67) rfl dX6_availableSet_66 (by omega) ?_
        refine zj_ior (n := 68) rfl dX6_availableSet_67 ?_
        refine zj_istore3 (n := 69) rfl dX6_availableSet_68 rfl (Nat.le_of_ble_eq_true rfl) ?_
        refine zj_iincN5 (n := 72) rfl dX6_availableSet_69 rfl (Nat.le_of_ble_eq_true rfl) ?_
        refine zj_goto (tgt := 17) dX6_availableSet_72 (by decide) ?_
        refine zj_keep [true, true, true, true, true, true, false] ?_
        rw [zmi hx (p := fun s => vav v d g s) (by show vav v d g s = true; unfold vav; rw [ztb0 c59, show (nd v (hol v g s) 4 != 1) = true from by simpa using c50]; rfl) (by omega)]
        exact hk _ rfl
  · intro x hx
    refine zj_iload5 (n := 19) rfl dX6_availableSet_17 ?_
    refine zj_iload4 (n := 21) rfl dX6_availableSet_19 ?_
    refine zj_icmpN_ge (n := 24) (tgt := 75) rfl dX6_availableSet_21 (by decide) (by omega) (by omega) (fun c21 => ?_) (fun c21 => by omega)
    refine zj_iload3 (n := 76) rfl dX6_availableSet_75 ?_
    exact zj_ireturn dX6_availableSet_76 rfl rfl (zQi h (by rw [hx]))
theorem jX6_missingSet {r : Nat} {v : zV} {g : Nat} {Q : Option Value → zM → Prop} {X : String → zM → Prop} {M : zM} (hR : zRg M r v) (hW : zWF v) (hg : g < v 8) (h : Q (some (.int (nI (vmiss v 0 g)))) M) : zJ yX6_missingSet cX6_missingSet 3 (some .int) rX6_missingSet Q X rX6_missingSet.cells rX6_missingSet.slots 0 (zEnt 3 [.ref r, .int (nI g)]) [] M := by
  have hgh := hW.gh hg
  have h6 := hW.nN
  have h8 := hW.gN
  have hsh := (hW.sh hg).2
  have hgr := hW.grp hg
  show zJ yX6_missingSet cX6_missingSet 3 (some .int) rX6_missingSet Q X 0 0 0 [some (.ref r), some (.int (nI g)), none] [] M
  refine zj_iconstN_1 (n := 1) rfl dX6_missingSet_0 ?_
  refine zj_aload0 (n := 2) rfl dX6_missingSet_1 ?_
  refine zj_getr (n := 5) (q := r + 5) rfl dX6_missingSet_2 zf_X6_23 rfl hR.i.lt hR.i.ty rfl ?_
  refine zj_iload1 (n := 6) rfl dX6_missingSet_5 ?_
  refine zj_bipushN (v := 9) (n := 8) rfl dX6_missingSet_6 (by decide) ?_
  refine zj_callV2 (n := 11) (a' := 0) (b' := 0) rfl dX6_missingSet_8 zm_X6_58 (by decide) (hR.i.ltc (c := 5) (by decide)) (by rw [(hR.i.ty1 (c := 5) (by decide))]; rfl) (Nat.le_of_ble_eq_true rfl) (Nat.le_of_ble_eq_true rfl) (Nat.le_of_ble_eq_true rfl) (Nat.le_of_ble_eq_true rfl) (jT_get hR.g.1 (by omega) (by decide) (hR.g.n (by omega)) ?_)
  refine zj_ishlN1 (n := 12) rfl dX6_missingSet_11 (by omega) ?_
  refine zj_iconstN_1 (n := 13) rfl dX6_missingSet_12 ?_
  refine zj_isubN (n := 14) rfl dX6_missingSet_13 (Nat.one_le_two_pow) ?_
  refine zj_istore2 (n := 15) rfl dX6_missingSet_14 rfl (Nat.le_of_ble_eq_true rfl) ?_
  refine zj_iload2 (n := 16) rfl dX6_missingSet_15 ?_
  refine zj_aload0 (n := 17) rfl dX6_missingSet_16 ?_
  refine zj_iload1 (n := 18) rfl dX6_missingSet_17 ?_
  refine zj_iconstN_0 (n := 19) rfl dX6_missingSet_18 ?_
  refine zj_callV2 (n := 22) (a' := 0) (b' := 0) rfl dX6_missingSet_19 zm_X6_71 (by decide) hR.i.lt (by rw [hR.i.ty]; rfl) (Nat.le_of_ble_eq_true rfl) (Nat.le_of_ble_eq_true rfl) (Nat.le_of_ble_eq_true rfl) (Nat.le_of_ble_eq_true rfl) (jX6_availableSet hR hW hg (by decide) ?_)
  refine zj_iconst_m1 (n := 23) rfl dX6_missingSet_22 ?_
  refine zj_ixor (n := 24) rfl dX6_missingSet_23 ?_
  refine zj_iand (n := 25) rfl dX6_missingSet_24 ?_
  exact zj_ireturn dX6_missingSet_25 rfl rfl (zQi h (by rw [← zMask_all, zMask_diff]; rfl))
theorem jX6_damagedSet {r : Nat} {v : zV} {Q : Option Value → zM → Prop} {X : String → zM → Prop} {M : zM} (hR : zRg M r v) (hW : zWF v) (h : Q (some (.int (nI (zMask (v 8) (fun g => vdam v 0 g))))) M) : zJ yX6_damagedSet cX6_damagedSet 3 (some .int) rX6_damagedSet Q X rX6_damagedSet.cells rX6_damagedSet.slots 0 (zEnt 3 [.ref r]) [] M := by
  have h8 := hW.gN
  show zJ yX6_damagedSet cX6_damagedSet 3 (some .int) rX6_damagedSet Q X 0 0 0 [some (.ref r), none, none] [] M
  refine zj_iconstN_0 (n := 1) rfl dX6_damagedSet_0 ?_
  refine zj_istore1 (n := 2) rfl dX6_damagedSet_1 rfl (Nat.le_of_ble_eq_true rfl) ?_
  refine zj_iconstN_0 (n := 3) rfl dX6_damagedSet_2 ?_
  refine zj_istore2 (n := 4) rfl dX6_damagedSet_3 rfl (Nat.le_of_ble_eq_true rfl) ?_
  refine zFor_rule (P := fun g (_ : Unit) => ∀ x, x = zMask g (fun g => vdam v 0 g) → zJ yX6_damagedSet cX6_damagedSet 3 (some .int) rX6_damagedSet Q X 0 0 4 [some (.ref r), some (.int (nI x)), some (.int (nI g))] [] M) (n := v 8) (f := fun _ s => s) (s0 := ()) ?_ ?_ 0 rfl
  · intro g _ hg hk x hx
    refine zj_iload2 (n := 5) rfl dX6_damagedSet_4 ?_
    refine zj_aload0 (n := 6) rfl dX6_damagedSet_5 ?_
    refine zj_getr (n := 9) (q := r + 5) rfl dX6_damagedSet_6 zf_X6_23 rfl hR.i.lt hR.i.ty rfl ?_
    refine zj_getiN (e := v 8) (n := 12) rfl dX6_damagedSet_9 zf_X6_55 rfl (hR.i.ltc (c := 5) (by decide)) (hR.i.ty1 (c := 5) (by decide)) hR.g.1.2.2.2.1 ?_
    refine zj_icmpN_ge (n := 15) (tgt := 35) rfl dX6_damagedSet_12 (by decide) (by omega) (by omega) (fun c12 => by omega) (fun c12 => ?_)
    refine zj_aload0 (n := 16) rfl dX6_damagedSet_15 ?_
    refine zj_iload2 (n := 17) rfl dX6_damagedSet_16 ?_
    refine zj_callV1 (n := 20) (a' := 0) (b' := 0) rfl dX6_damagedSet_17 zm_X6_74 (by decide) hR.i.lt (by rw [hR.i.ty]; rfl) (Nat.le_of_ble_eq_true rfl) (Nat.le_of_ble_eq_true rfl) (Nat.le_of_ble_eq_true rfl) (Nat.le_of_ble_eq_true rfl) (jX6_missingSet hR hW hg ?_)
    refine zj_ifN_eq (n := 23) (tgt := 29) rfl dX6_damagedSet_20 (by decide) (vmiss_lt (by have := (hW.sh hg).2; omega)) (fun c20 => ?_) (fun c20 => ?_)
    · refine zj_iincN2 (n := 32) rfl dX6_damagedSet_29 rfl (Nat.le_of_ble_eq_true rfl) ?_
      refine zj_goto (tgt := 4) dX6_damagedSet_32 (by decide) ?_
      exact hk _ (zmn hx (vmiss_0.mp c20))
    · refine zj_iload1 (n := 24) rfl dX6_damagedSet_23 ?_
      refine zj_iconstN_1 (n := 25) rfl dX6_damagedSet_24 ?_
      refine zj_iload2 (n := 26) rfl dX6_damagedSet_25 ?_
      refine zj_ishlN1 (n := 27) rfl dX6_damagedSet_26 (by omega) ?_
      refine zj_ior (n := 28) rfl dX6_damagedSet_27 ?_
      refine zj_istore1 (n := 29) rfl dX6_damagedSet_28 rfl (Nat.le_of_ble_eq_true rfl) ?_
      refine zj_iincN2 (n := 32) rfl dX6_damagedSet_29 rfl (Nat.le_of_ble_eq_true rfl) ?_
      refine zj_goto (tgt := 4) dX6_damagedSet_32 (by decide) ?_
      rw [zmi hx (p := fun g => vdam v 0 g) (by show vdam v 0 g = true; cases e : vdam v 0 g with | true => rfl | false => have := vmiss_0.mpr e; omega) (by omega)]
      exact hk _ rfl
  · intro x hx
    refine zj_iload2 (n := 5) rfl dX6_damagedSet_4 ?_
    refine zj_aload0 (n := 6) rfl dX6_damagedSet_5 ?_
    refine zj_getr (n := 9) (q := r + 5) rfl dX6_damagedSet_6 zf_X6_23 rfl hR.i.lt hR.i.ty rfl ?_
    refine zj_getiN (e := v 8) (n := 12) rfl dX6_damagedSet_9 zf_X6_55 rfl (hR.i.ltc (c := 5) (by decide)) (hR.i.ty1 (c := 5) (by decide)) hR.g.1.2.2.2.1 ?_
    refine zj_icmpN_ge (n := 15) (tgt := 35) rfl dX6_damagedSet_12 (by decide) (by omega) (by omega) (fun c12 => ?_) (fun c12 => by omega)
    refine zj_iload1 (n := 36) rfl dX6_damagedSet_35 ?_
    exact zj_ireturn dX6_damagedSet_36 rfl rfl (zQi h (by rw [hx]))
theorem zpop_nav {v : zV} {d g : Nat} (h : vsh v g ≤ 10) : zpop (zMask (vsh v g) (fun s => vav v d g s)) = vnav v d g := zpop_mask h
theorem jX6_spareShards {r : Nat} {v : zV} {g d : Nat} {Q : Option Value → zM → Prop} {X : String → zM → Prop} {M : zM} (hR : zRg M r v) (hW : zWF v) (hg : g < v 8) (hd2 : d < 2 ^ 16) (h : Q (some (.int (nI (vnav v d g) - nI (v (268 + 23 * g + 2))))) M) : zJ yX6_spareShards cX6_spareShards 3 (some .int) rX6_spareShards Q X rX6_spareShards.cells rX6_spareShards.slots 0 (zEnt 3 [.ref r, .int (nI g), .int (nI d)]) [] M := by
  have hgh := hW.gh hg
  have h6 := hW.nN
  have h8 := hW.gN
  have hsh := (hW.sh hg).2
  have hgr := hW.grp hg
  show zJ yX6_spareShards cX6_spareShards 3 (some .int) rX6_spareShards Q X 0 0 0 [some (.ref r), some (.int (nI g)), some (.int (nI d))] [] M
  refine zj_aload0 (n := 1) rfl dX6_spareShards_0 ?_
  refine zj_iload1 (n := 2) rfl dX6_spareShards_1 ?_
  refine zj_iload2 (n := 3) rfl dX6_spareShards_2 ?_
  refine zj_callV2 (n := 6) (a' := 0) (b' := 0) rfl dX6_spareShards_3 zm_X6_71 (by decide) hR.i.lt (by rw [hR.i.ty]; rfl) (Nat.le_of_ble_eq_true rfl) (Nat.le_of_ble_eq_true rfl) (Nat.le_of_ble_eq_true rfl) (Nat.le_of_ble_eq_true rfl) (jX6_availableSet hR hW hg hd2 ?_)
  refine zj_callS1 (n := 9) (a' := 0) (b' := 0) rfl dX6_spareShards_6 zm_X6_78 (by decide) (Nat.le_of_ble_eq_true rfl) (Nat.le_of_ble_eq_true rfl) (Nat.le_of_ble_eq_true rfl) (Nat.le_of_ble_eq_true rfl) (jJ_bitCountN (Nat.lt_of_lt_of_le (zMask_lt _ _) (Nat.pow_le_pow_right (n := 2) (by decide) hsh)) ?_)
  rw [zpop_nav hsh]
  refine zj_aload0 (n := 10) rfl dX6_spareShards_9 ?_
  refine zj_getr (n := 13) (q := r + 5) rfl dX6_spareShards_10 zf_X6_23 rfl hR.i.lt hR.i.ty rfl ?_
  refine zj_iload1 (n := 14) rfl dX6_spareShards_13 ?_
  refine zj_iconstN_2 (n := 15) rfl dX6_spareShards_14 ?_
  refine zj_callV2 (n := 18) (a' := 0) (b' := 0) rfl dX6_spareShards_15 zm_X6_58 (by decide) (hR.i.ltc (c := 5) (by decide)) (by rw [(hR.i.ty1 (c := 5) (by decide))]; rfl) (Nat.le_of_ble_eq_true rfl) (Nat.le_of_ble_eq_true rfl) (Nat.le_of_ble_eq_true rfl) (Nat.le_of_ble_eq_true rfl) (jT_get hR.g.1 (by omega) (by decide) (hR.g.c (by omega) (by decide)) ?_)
  refine zj_isub (n := 19) rfl dX6_spareShards_18 ?_
  exact zj_ireturn dX6_spareShards_19 rfl rfl h
theorem jX6_lostSet {r : Nat} {v : zV} {d : Nat} {Q : Option Value → zM → Prop} {X : String → zM → Prop} {M : zM} (hR : zRg M r v) (hW : zWF v) (hd2 : d < 2 ^ 16) (h : Q (some (.int (nI (zMask (v 8) (fun g => vlost v d g))))) M) : zJ yX6_lostSet cX6_lostSet 4 (some .int) rX6_lostSet Q X rX6_lostSet.cells rX6_lostSet.slots 0 (zEnt 4 [.ref r, .int (nI d)]) [] M := by
  have h8 := hW.gN
  show zJ yX6_lostSet cX6_lostSet 4 (some .int) rX6_lostSet Q X 0 0 0 [some (.ref r), some (.int (nI d)), none, none] [] M
  refine zj_iconstN_0 (n := 1) rfl dX6_lostSet_0 ?_
  refine zj_istore2 (n := 2) rfl dX6_lostSet_1 rfl (Nat.le_of_ble_eq_true rfl) ?_
  refine zj_iconstN_0 (n := 3) rfl dX6_lostSet_2 ?_
  refine zj_istore3 (n := 4) rfl dX6_lostSet_3 rfl (Nat.le_of_ble_eq_true rfl) ?_
  refine zFor_rule (P := fun g (_ : Unit) => ∀ x, x = zMask g (fun g => vlost v d g) → zJ yX6_lostSet cX6_lostSet 4 (some .int) rX6_lostSet Q X 0 0 4 [some (.ref r), some (.int (nI d)), some (.int (nI x)), some (.int (nI g))] [] M) (n := v 8) (f := fun _ s => s) (s0 := ()) ?_ ?_ 0 rfl
  · intro g _ hg hk x hx
    refine zj_iload3 (n := 5) rfl dX6_lostSet_4 ?_
    refine zj_aload0 (n := 6) rfl dX6_lostSet_5 ?_
    refine zj_getr (n := 9) (q := r + 5) rfl dX6_lostSet_6 zf_X6_23 rfl hR.i.lt hR.i.ty rfl ?_
    refine zj_getiN (e := v 8) (n := 12) rfl dX6_lostSet_9 zf_X6_55 rfl (hR.i.ltc (c := 5) (by decide)) (hR.i.ty1 (c := 5) (by decide)) hR.g.1.2.2.2.1 ?_
    refine zj_icmpN_ge (n := 15) (tgt := 36) rfl dX6_lostSet_12 (by decide) (by omega) (by omega) (fun c12 => by omega) (fun c12 => ?_)
    have hsg := (hW.sh hg).2
    have hvn := vnav_le (v := v) (d := d) (g := g)
    have hgr := hW.grp hg
    have hg2 : v (268 + 23 * g + 2) ≤ 6 := hgr.2.2.2.1
    refine zj_aload0 (n := 16) rfl dX6_lostSet_15 ?_
    refine zj_iload3 (n := 17) rfl dX6_lostSet_16 ?_
    refine zj_iload1 (n := 18) rfl dX6_lostSet_17 ?_
    refine zj_callV2 (n := 21) (a' := 0) (b' := 0) rfl dX6_lostSet_18 zm_X6_83 (by decide) hR.i.lt (by rw [hR.i.ty]; rfl) (Nat.le_of_ble_eq_true rfl) (Nat.le_of_ble_eq_true rfl) (Nat.le_of_ble_eq_true rfl) (Nat.le_of_ble_eq_true rfl) (jX6_spareShards hR hW hg hd2 ?_)
    refine zj_ifD_ge (n := 24) (tgt := 30) rfl dX6_lostSet_21 (by decide) (by omega) (by omega) (fun c21 => ?_) (fun c21 => ?_)
    · refine zj_iincN3 (n := 33) rfl dX6_lostSet_30 rfl (Nat.le_of_ble_eq_true rfl) ?_
      refine zj_goto (tgt := 4) dX6_lostSet_33 (by decide) ?_
      exact hk _ (zmn hx (decide_eq_false (show ¬ vnav v d g < v (268 + 23 * g + 2) by omega)))
    · refine zj_iload2 (n := 25) rfl dX6_lostSet_24 ?_
      refine zj_iconstN_1 (n := 26) rfl dX6_lostSet_25 ?_
      refine zj_iload3 (n := 27) rfl dX6_lostSet_26 ?_
      refine zj_ishlN1 (n := 28) rfl dX6_lostSet_27 (by omega) ?_
      refine zj_ior (n := 29) rfl dX6_lostSet_28 ?_
      refine zj_istore2 (n := 30) rfl dX6_lostSet_29 rfl (Nat.le_of_ble_eq_true rfl) ?_
      refine zj_iincN3 (n := 33) rfl dX6_lostSet_30 rfl (Nat.le_of_ble_eq_true rfl) ?_
      refine zj_goto (tgt := 4) dX6_lostSet_33 (by decide) ?_
      rw [zmi hx (p := fun g => vlost v d g) (decide_eq_true c21) (by omega)]
      exact hk _ rfl
  · intro x hx
    refine zj_iload3 (n := 5) rfl dX6_lostSet_4 ?_
    refine zj_aload0 (n := 6) rfl dX6_lostSet_5 ?_
    refine zj_getr (n := 9) (q := r + 5) rfl dX6_lostSet_6 zf_X6_23 rfl hR.i.lt hR.i.ty rfl ?_
    refine zj_getiN (e := v 8) (n := 12) rfl dX6_lostSet_9 zf_X6_55 rfl (hR.i.ltc (c := 5) (by decide)) (hR.i.ty1 (c := 5) (by decide)) hR.g.1.2.2.2.1 ?_
    refine zj_icmpN_ge (n := 15) (tgt := 36) rfl dX6_lostSet_12 (by decide) (by omega) (by omega) (fun c12 => ?_) (fun c12 => by omega)
    refine zj_iload2 (n := 37) rfl dX6_lostSet_36 ?_
    exact zj_ireturn dX6_lostSet_37 rfl rfl (zQi h (by rw [hx]))
theorem zsub1 (x z : Int32) : (x + nI 1) - z = x - z + nI 1 := by
  apply Int32.toBitVec_inj.mp
  show (x.toBitVec + (nI 1).toBitVec) - z.toBitVec = x.toBitVec - z.toBitVec + (nI 1).toBitVec
  apply BitVec.eq_of_toNat_eq
  have h1 := x.toBitVec.isLt
  have h2 := z.toBitVec.isLt
  have h3 := (nI 1).toBitVec.isLt
  rw [BitVec.toNat_sub, BitVec.toNat_add, BitVec.toNat_add, BitVec.toNat_sub]
  omega
theorem jX6_failuresToLose {r : Nat} {v : zV} {g : Nat} {Q : Option Value → zM → Prop} {X : String → zM → Prop} {M : zM} (hR : zRg M r v) (hW : zWF v) (hg : g < v 8) (h : Q (some (.int (nI (vnav v 0 g + 1) - nI (v (268 + 23 * g + 2))))) M) : zJ yX6_failuresToLose cX6_failuresToLose 2 (some .int) rX6_failuresToLose Q X rX6_failuresToLose.cells rX6_failuresToLose.slots 0 (zEnt 2 [.ref r, .int (nI g)]) [] M := by
  show zJ yX6_failuresToLose cX6_failuresToLose 2 (some .int) rX6_failuresToLose Q X 0 0 0 [some (.ref r), some (.int (nI g))] [] M
  refine zj_aload0 (n := 1) rfl dX6_failuresToLose_0 ?_
  refine zj_iload1 (n := 2) rfl dX6_failuresToLose_1 ?_
  refine zj_iconstN_0 (n := 3) rfl dX6_failuresToLose_2 ?_
  refine zj_callV2 (n := 6) (a' := 0) (b' := 0) rfl dX6_failuresToLose_3 zm_X6_83 (by decide) hR.i.lt (by rw [hR.i.ty]; rfl) (Nat.le_of_ble_eq_true rfl) (Nat.le_of_ble_eq_true rfl) (Nat.le_of_ble_eq_true rfl) (Nat.le_of_ble_eq_true rfl) (jX6_spareShards hR hW hg (by decide) ?_)
  refine zj_iconstN_1 (n := 7) rfl dX6_failuresToLose_6 ?_
  refine zj_iadd (n := 8) rfl dX6_failuresToLose_7 ?_
  exact zj_ireturn dX6_failuresToLose_8 rfl rfl (zQi h (by rw [← nI_add]; exact zsub1 _ _))
theorem jX6_allNodes {r : Nat} {v : zV} {Q : Option Value → zM → Prop} {X : String → zM → Prop} {M : zM} (hR : zRg M r v) (hW : zWF v) (h : Q (some (.int (nI (2 ^ v 6 - 1)))) M) : zJ yX6_allNodes cX6_allNodes 1 (some .int) rX6_allNodes Q X rX6_allNodes.cells rX6_allNodes.slots 0 (zEnt 1 [.ref r]) [] M := by
  have h6 := hW.nN
  have h8 := hW.gN
  show zJ yX6_allNodes cX6_allNodes 1 (some .int) rX6_allNodes Q X 0 0 0 [some (.ref r)] [] M
  refine zj_iconstN_1 (n := 1) rfl dX6_allNodes_0 ?_
  refine zj_aload0 (n := 2) rfl dX6_allNodes_1 ?_
  refine zj_getr (n := 5) (q := r + 1) rfl dX6_allNodes_2 zf_X6_14 rfl hR.i.lt hR.i.ty rfl ?_
  refine zj_getiN (e := v 6) (n := 8) rfl dX6_allNodes_5 zf_X6_55 rfl (hR.i.ltc (c := 1) (by decide)) (hR.i.ty1 (c := 1) (by decide)) hR.n.1.2.2.2.1 ?_
  refine zj_ishlN1 (n := 9) rfl dX6_allNodes_8 (by omega) ?_
  refine zj_iconstN_1 (n := 10) rfl dX6_allNodes_9 ?_
  refine zj_isubN (n := 11) rfl dX6_allNodes_10 (Nat.one_le_two_pow) ?_
  exact zj_ireturn dX6_allNodes_11 rfl rfl h
theorem jX6_allGroups {r : Nat} {v : zV} {Q : Option Value → zM → Prop} {X : String → zM → Prop} {M : zM} (hR : zRg M r v) (hW : zWF v) (h : Q (some (.int (nI (2 ^ v 8 - 1)))) M) : zJ yX6_allGroups cX6_allGroups 1 (some .int) rX6_allGroups Q X rX6_allGroups.cells rX6_allGroups.slots 0 (zEnt 1 [.ref r]) [] M := by
  have h6 := hW.nN
  have h8 := hW.gN
  show zJ yX6_allGroups cX6_allGroups 1 (some .int) rX6_allGroups Q X 0 0 0 [some (.ref r)] [] M
  refine zj_iconstN_1 (n := 1) rfl dX6_allGroups_0 ?_
  refine zj_aload0 (n := 2) rfl dX6_allGroups_1 ?_
  refine zj_getr (n := 5) (q := r + 5) rfl dX6_allGroups_2 zf_X6_23 rfl hR.i.lt hR.i.ty rfl ?_
  refine zj_getiN (e := v 8) (n := 8) rfl dX6_allGroups_5 zf_X6_55 rfl (hR.i.ltc (c := 5) (by decide)) (hR.i.ty1 (c := 5) (by decide)) hR.g.1.2.2.2.1 ?_
  refine zj_ishlN1 (n := 9) rfl dX6_allGroups_8 (by omega) ?_
  refine zj_iconstN_1 (n := 10) rfl dX6_allGroups_9 ?_
  refine zj_isubN (n := 11) rfl dX6_allGroups_10 (Nat.one_le_two_pow) ?_
  exact zj_ireturn dX6_allGroups_11 rfl rfl h
theorem jX6_nodeWith {r : Nat} {v : zV} {g s : Nat} {Q : Option Value → zM → Prop} {X : String → zM → Prop} {M : zM} (hR : zRg M r v) (hW : zWF v) (hg : g < v 8) (hs : s < vsh v g) (h : Q (some (.int (nI (hol v g s)))) M) : zJ yX6_nodeWith cX6_nodeWith 3 (some .int) rX6_nodeWith Q X rX6_nodeWith.cells rX6_nodeWith.slots 0 (zEnt 3 [.ref r, .int (nI g), .int (nI s)]) [] M := by
  have hgh := hW.gh hg
  have h6 := hW.nN
  have h8 := hW.gN
  have hsh := (hW.sh hg).2
  have hgr := hW.grp hg
  show zJ yX6_nodeWith cX6_nodeWith 3 (some .int) rX6_nodeWith Q X 0 0 0 [some (.ref r), some (.int (nI g)), some (.int (nI s))] [] M
  refine zj_aload0 (n := 1) rfl dX6_nodeWith_0 ?_
  refine zj_getr (n := 4) (q := r + 5) rfl dX6_nodeWith_1 zf_X6_23 rfl hR.i.lt hR.i.ty rfl ?_
  refine zj_iload1 (n := 5) rfl dX6_nodeWith_4 ?_
  refine zj_bipushN (v := 10) (n := 7) rfl dX6_nodeWith_5 (by decide) ?_
  refine zj_iload2 (n := 8) rfl dX6_nodeWith_7 ?_
  refine zj_iaddN (n := 9) rfl dX6_nodeWith_8 ?_
  refine zj_callV2 (n := 12) (a' := 0) (b' := 0) rfl dX6_nodeWith_9 zm_X6_58 (by decide) (hR.i.ltc (c := 5) (by decide)) (by rw [(hR.i.ty1 (c := 5) (by decide))]; rfl) (Nat.le_of_ble_eq_true rfl) (Nat.le_of_ble_eq_true rfl) (Nat.le_of_ble_eq_true rfl) (Nat.le_of_ble_eq_true rfl) (jT_get (e := hol v g s) hR.g.1 (by omega) (by omega) (hR.g.sh (by omega) (by omega)) ?_)
  exact zj_ireturn dX6_nodeWith_12 rfl rfl h
theorem jX6_unitsAtHand {r : Nat} {v : zV} {Q : Option Value → zM → Prop} {X : String → zM → Prop} {M : zM} (hR : zRg M r v) (hW : zWF v) (h : Q (some (.int (nI (v 0 + v 4)))) M) : zJ yX6_unitsAtHand cX6_unitsAtHand 1 (some .int) rX6_unitsAtHand Q X rX6_unitsAtHand.cells rX6_unitsAtHand.slots 0 (zEnt 1 [.ref r]) [] M := by
  show zJ yX6_unitsAtHand cX6_unitsAtHand 1 (some .int) rX6_unitsAtHand Q X 0 0 0 [some (.ref r)] [] M
  refine zj_aload0 (n := 1) rfl dX6_unitsAtHand_0 ?_
  refine zj_getiN (e := v 0) (n := 4) rfl dX6_unitsAtHand_1 zf_X6_29 rfl hR.i.lt hR.i.ty (hR.s 0 (by decide)) ?_
  refine zj_aload0 (n := 5) rfl dX6_unitsAtHand_4 ?_
  refine zj_getiN (e := v 4) (n := 8) rfl dX6_unitsAtHand_5 zf_X6_49 rfl hR.i.lt hR.i.ty (hR.s 4 (by decide)) ?_
  refine zj_iaddN (n := 9) rfl dX6_unitsAtHand_8 ?_
  exact zj_ireturn dX6_unitsAtHand_9 rfl rfl h
theorem zpop_miss {v : zV} {d g : Nat} (h : vsh v g ≤ 10) : zpop (vmiss v d g) = vsh v g - vnav v d g := by
  unfold vmiss
  rw [zpop_mask h]
  have := zCnt_not (vsh v g) (fun s => vav v d g s)
  unfold vnav
  omega
theorem jX6_needOf {r : Nat} {v : zV} {g : Nat} {Q : Option Value → zM → Prop} {X : String → zM → Prop} {M : zM} (hR : zRg M r v) (hW : zWF v) (hg : g < v 8) (h : Q (some (.int (nI (vneed v 0 g)))) M) : zJ yX6_needOf cX6_needOf 3 (some .int) rX6_needOf Q X rX6_needOf.cells rX6_needOf.slots 0 (zEnt 3 [.ref r, .int (nI g)]) [] M := by
  have hgh := hW.gh hg
  have h6 := hW.nN
  have h8 := hW.gN
  have hsh := (hW.sh hg).2
  have hgr := hW.grp hg
  have hnl := (vneed_le hW (d := 0) hg).2
  have hpr : v (268 + 23 * g + 6) ≤ 7000 := hgr.2.2.2.2.2.2.2.2.2.2
  show zJ yX6_needOf cX6_needOf 3 (some .int) rX6_needOf Q X 0 0 0 [some (.ref r), some (.int (nI g)), none] [] M
  refine zj_aload0 (n := 1) rfl dX6_needOf_0 ?_
  refine zj_iload1 (n := 2) rfl dX6_needOf_1 ?_
  refine zj_callV1 (n := 5) (a' := 0) (b' := 0) rfl dX6_needOf_2 zm_X6_74 (by decide) hR.i.lt (by rw [hR.i.ty]; rfl) (Nat.le_of_ble_eq_true rfl) (Nat.le_of_ble_eq_true rfl) (Nat.le_of_ble_eq_true rfl) (Nat.le_of_ble_eq_true rfl) (jX6_missingSet hR hW hg ?_)
  refine zj_callS1 (n := 8) (a' := 0) (b' := 0) rfl dX6_needOf_5 zm_X6_78 (by decide) (Nat.le_of_ble_eq_true rfl) (Nat.le_of_ble_eq_true rfl) (Nat.le_of_ble_eq_true rfl) (Nat.le_of_ble_eq_true rfl) (jJ_bitCountN (Nat.lt_of_lt_of_le (zMask_lt _ _) (Nat.pow_le_pow_right (n := 2) (by decide) hsh)) ?_)
  rw [zpop_miss hsh]
  refine zj_istore2 (n := 9) rfl dX6_needOf_8 rfl (Nat.le_of_ble_eq_true rfl) ?_
  refine zj_iconstN_0 (n := 10) rfl dX6_needOf_9 ?_
  refine zj_iload2 (n := 11) rfl dX6_needOf_10 ?_
  refine zj_aload0 (n := 12) rfl dX6_needOf_11 ?_
  refine zj_getr (n := 15) (q := r + 5) rfl dX6_needOf_12 zf_X6_23 rfl hR.i.lt hR.i.ty rfl ?_
  refine zj_iload1 (n := 16) rfl dX6_needOf_15 ?_
  refine zj_bipushN (v := 7) (n := 18) rfl dX6_needOf_16 (by decide) ?_
  refine zj_callV2 (n := 21) (a' := 0) (b' := 0) rfl dX6_needOf_18 zm_X6_58 (by decide) (hR.i.ltc (c := 5) (by decide)) (by rw [(hR.i.ty1 (c := 5) (by decide))]; rfl) (Nat.le_of_ble_eq_true rfl) (Nat.le_of_ble_eq_true rfl) (Nat.le_of_ble_eq_true rfl) (Nat.le_of_ble_eq_true rfl) (jT_get hR.g.1 (by omega) (by decide) (hR.g.co (by omega)) ?_)
  refine zj_imulN (n := 22) rfl dX6_needOf_21 ?_
  refine zj_aload0 (n := 23) rfl dX6_needOf_22 ?_
  refine zj_getr (n := 26) (q := r + 5) rfl dX6_needOf_23 zf_X6_23 rfl hR.i.lt hR.i.ty rfl ?_
  refine zj_iload1 (n := 27) rfl dX6_needOf_26 ?_
  refine zj_bipushN (v := 6) (n := 29) rfl dX6_needOf_27 (by decide) ?_
  refine zj_callV2 (n := 32) (a' := 0) (b' := 0) rfl dX6_needOf_29 zm_X6_58 (by decide) (hR.i.ltc (c := 5) (by decide)) (by rw [(hR.i.ty1 (c := 5) (by decide))]; rfl) (Nat.le_of_ble_eq_true rfl) (Nat.le_of_ble_eq_true rfl) (Nat.le_of_ble_eq_true rfl) (Nat.le_of_ble_eq_true rfl) (jT_get hR.g.1 (by omega) (by decide) (hR.g.c (by omega) (by decide)) ?_)
  refine zj_isub (n := 33) rfl dX6_needOf_32 ?_
  refine zj_imax (n := 36) rfl dX6_needOf_33 zm_X6_112 (by decide) (Nat.le_of_ble_eq_true rfl) ?_
  exact zj_ireturn dX6_needOf_36 rfl rfl (zQi h (by rw [show nI 0 = (0 : Int32) from rfl, zmax0 (by omega) (by omega)]; rfl))
theorem jX6_grownPurse {r : Nat} {v : zV} {t : Nat} {Q : Option Value → zM → Prop} {X : String → zM → Prop} {M : zM} (hR : zRg M r v) (hW : zWF v) (ht : t < v 7) (h : Q (some (.int (nI (vgrown v t)))) M) : zJ yX6_grownPurse cX6_grownPurse 4 (some .int) rX6_grownPurse Q X rX6_grownPurse.cells rX6_grownPurse.slots 0 (zEnt 4 [.ref r, .int (nI t)]) [] M := by
  obtain ⟨t0, t1, t2, t3⟩ := hW.ten ht
  have t0 : v (202 + 11 * t + 0) ≤ 999999 := t0
  have t1 : v (202 + 11 * t + 1) ≤ 999999 := t1
  have t2 : v (202 + 11 * t + 2) ≤ 9999999 := t2
  have eg : vgrown v t = max (v (202 + 11 * t + 2)) (min (v (202 + 11 * t + 1)) (v (202 + 11 * t + 2) + v (202 + 11 * t + 0))) := rfl
  show zJ yX6_grownPurse cX6_grownPurse 4 (some .int) rX6_grownPurse Q X 0 0 0 [some (.ref r), some (.int (nI t)), none, none] [] M
  refine zj_aload0 (n := 1) rfl dX6_grownPurse_0 ?_
  refine zj_getr (n := 4) (q := r + 3) rfl dX6_grownPurse_1 zf_X6_20 rfl hR.i.lt hR.i.ty rfl ?_
  refine zj_iload1 (n := 5) rfl dX6_grownPurse_4 ?_
  refine zj_iconstN_2 (n := 6) rfl dX6_grownPurse_5 ?_
  refine zj_callV2 (n := 9) (a' := 0) (b' := 0) rfl dX6_grownPurse_6 zm_X6_58 (by decide) (hR.i.ltc (c := 3) (by decide)) (by rw [(hR.i.ty1 (c := 3) (by decide))]; rfl) (Nat.le_of_ble_eq_true rfl) (Nat.le_of_ble_eq_true rfl) (Nat.le_of_ble_eq_true rfl) (Nat.le_of_ble_eq_true rfl) (jT_get hR.t.1 (by omega) (by decide) (hR.t.c (by omega) (by decide)) ?_)
  refine zj_istore2 (n := 10) rfl dX6_grownPurse_9 rfl (Nat.le_of_ble_eq_true rfl) ?_
  refine zj_aload0 (n := 11) rfl dX6_grownPurse_10 ?_
  refine zj_getr (n := 14) (q := r + 3) rfl dX6_grownPurse_11 zf_X6_20 rfl hR.i.lt hR.i.ty rfl ?_
  refine zj_iload1 (n := 15) rfl dX6_grownPurse_14 ?_
  refine zj_iconstN_1 (n := 16) rfl dX6_grownPurse_15 ?_
  refine zj_callV2 (n := 19) (a' := 0) (b' := 0) rfl dX6_grownPurse_16 zm_X6_58 (by decide) (hR.i.ltc (c := 3) (by decide)) (by rw [(hR.i.ty1 (c := 3) (by decide))]; rfl) (Nat.le_of_ble_eq_true rfl) (Nat.le_of_ble_eq_true rfl) (Nat.le_of_ble_eq_true rfl) (Nat.le_of_ble_eq_true rfl) (jT_get hR.t.1 (by omega) (by decide) (hR.t.c (by omega) (by decide)) ?_)
  refine zj_istore3 (n := 20) rfl dX6_grownPurse_19 rfl (Nat.le_of_ble_eq_true rfl) ?_
  refine zj_iload2 (n := 21) rfl dX6_grownPurse_20 ?_
  refine zj_iload3 (n := 22) rfl dX6_grownPurse_21 ?_
  refine zj_icmpN_lt (n := 25) (tgt := 29) rfl dX6_grownPurse_22 (by decide) (by omega) (by omega) (fun c22 => ?_) (fun c22 => ?_)
  · refine zj_iload3 (n := 30) rfl dX6_grownPurse_29 ?_
    refine zj_iload2 (n := 31) rfl dX6_grownPurse_30 ?_
    refine zj_aload0 (n := 32) rfl dX6_grownPurse_31 ?_
    refine zj_getr (n := 35) (q := r + 3) rfl dX6_grownPurse_32 zf_X6_20 rfl hR.i.lt hR.i.ty rfl ?_
    refine zj_iload1 (n := 36) rfl dX6_grownPurse_35 ?_
    refine zj_iconstN_0 (n := 37) rfl dX6_grownPurse_36 ?_
    refine zj_callV2 (n := 40) (a' := 0) (b' := 0) rfl dX6_grownPurse_37 zm_X6_58 (by decide) (hR.i.ltc (c := 3) (by decide)) (by rw [(hR.i.ty1 (c := 3) (by decide))]; rfl) (Nat.le_of_ble_eq_true rfl) (Nat.le_of_ble_eq_true rfl) (Nat.le_of_ble_eq_true rfl) (Nat.le_of_ble_eq_true rfl) (jT_get hR.t.1 (by omega) (by decide) (hR.t.c (by omega) (by decide)) ?_)
    refine zj_iaddN (n := 41) rfl dX6_grownPurse_40 ?_
    refine zj_iminN (n := 44) rfl dX6_grownPurse_41 zm_X6_115 (by decide) (Nat.le_of_ble_eq_true rfl) (by omega) (by omega) ?_
    exact zj_ireturn dX6_grownPurse_44 rfl rfl (zQi h (congrArg nI (by omega)))
  · refine zj_iload2 (n := 26) rfl dX6_grownPurse_25 ?_
    refine zj_goto (tgt := 44) dX6_grownPurse_26 (by decide) ?_
    exact zj_ireturn dX6_grownPurse_44 rfl rfl (zQi h (congrArg nI (by omega)))
theorem jX6_targetOf {r : Nat} {v : zV} {g : Nat} {Q : Option Value → zM → Prop} {X : String → zM → Prop} {M : zM} (hR : zRg M r v) (hW : zWF v) (hg : g < v 8) (h : Q (some (.int (zo (if vdam v 0 g then vpm v g (vfm v 0 g) else none)))) M) : zJ yX6_targetOf cX6_targetOf 5 (some .int) rX6_targetOf Q X rX6_targetOf.cells rX6_targetOf.slots 0 (zEnt 5 [.ref r, .int (nI g)]) [] M := by
  have hgh := hW.gh hg
  have h6 := hW.nN
  have h8 := hW.gN
  have hsh := (hW.sh hg).2
  have hgr := hW.grp hg
  have h10 := hW.gN
  show zJ yX6_targetOf cX6_targetOf 5 (some .int) rX6_targetOf Q X 0 0 0 [some (.ref r), some (.int (nI g)), none, none, none] [] M
  refine zj_aload0 (n := 1) rfl dX6_targetOf_0 ?_
  refine zj_iload1 (n := 2) rfl dX6_targetOf_1 ?_
  refine zj_callV1 (n := 5) (a' := 0) (b' := 0) rfl dX6_targetOf_2 zm_X6_74 (by decide) hR.i.lt (by rw [hR.i.ty]; rfl) (Nat.le_of_ble_eq_true rfl) (Nat.le_of_ble_eq_true rfl) (Nat.le_of_ble_eq_true rfl) (Nat.le_of_ble_eq_true rfl) (jX6_missingSet hR hW hg ?_)
  refine zj_istore2 (n := 6) rfl dX6_targetOf_5 rfl (Nat.le_of_ble_eq_true rfl) ?_
  refine zj_iload2 (n := 7) rfl dX6_targetOf_6 ?_
  refine zj_ifN_ne (n := 10) (tgt := 12) rfl dX6_targetOf_7 (by decide) (vmiss_lt (by omega)) (fun c7 => ?_) (fun c7 => ?_)
  · have hdm : vdam v 0 g = true := by cases e : vdam v 0 g with | true => rfl | false => have := vmiss_0.mpr e; omega
    have hlt : zFst (vsh v g) (fun s => !vav v 0 g s) < vsh v g := vfm_lt hdm
    have hlt2 : vfm v 0 g < vsh v g := hlt
    have hh : hol v g (vfm v 0 g) < v 6 := hW.holds hg hlt
    refine zj_iload2 (n := 13) rfl dX6_targetOf_12 ?_
    refine zj_callSN1 (n := 16) (a' := 0) (b' := 0) rfl dX6_targetOf_13 zm_X6_99 (by decide) (Nat.le_of_ble_eq_true rfl) (Nat.le_of_ble_eq_true rfl) (Nat.le_of_ble_eq_true rfl) (Nat.le_of_ble_eq_true rfl) (jX9_lowestOf (n := vsh v g) (p := fun s => !vav v 0 g s) hsh hlt ?_)
    refine zj_istore3 (n := 17) rfl dX6_targetOf_16 rfl (Nat.le_of_ble_eq_true rfl) ?_
    refine zj_aload0 (n := 18) rfl dX6_targetOf_17 ?_
    refine zj_getr (n := 21) (q := r + 5) rfl dX6_targetOf_18 zf_X6_23 rfl hR.i.lt hR.i.ty rfl ?_
    refine zj_iload1 (n := 22) rfl dX6_targetOf_21 ?_
    refine zj_bipushN (v := 10) (n := 24) rfl dX6_targetOf_22 (by decide) ?_
    refine zj_iload3 (n := 25) rfl dX6_targetOf_24 ?_
    refine zj_iaddN (n := 26) rfl dX6_targetOf_25 ?_
    refine zj_callV2 (n := 29) (a' := 0) (b' := 0) rfl dX6_targetOf_26 zm_X6_58 (by decide) (hR.i.ltc (c := 5) (by decide)) (by rw [(hR.i.ty1 (c := 5) (by decide))]; rfl) (Nat.le_of_ble_eq_true rfl) (Nat.le_of_ble_eq_true rfl) (Nat.le_of_ble_eq_true rfl) (Nat.le_of_ble_eq_true rfl) (jT_get (e := hol v g ((vfm v 0 g))) hR.g.1 (by omega) (by omega) (hR.g.sh (by omega) (by omega)) ?_)
    refine zj_istore4 (n := 31) rfl dX6_targetOf_29 rfl (Nat.le_of_ble_eq_true rfl) ?_
    refine zj_aload0 (n := 32) rfl dX6_targetOf_31 ?_
    refine zj_iload1 (n := 33) rfl dX6_targetOf_32 ?_
    refine zj_iload3 (n := 34) rfl dX6_targetOf_33 ?_
    refine zj_aload0 (n := 35) rfl dX6_targetOf_34 ?_
    refine zj_getr (n := 38) (q := r + 1) rfl dX6_targetOf_35 zf_X6_14 rfl hR.i.lt hR.i.ty rfl ?_
    refine zj_iload4 (n := 40) rfl dX6_targetOf_38 ?_
    refine zj_iconstN_0 (n := 41) rfl dX6_targetOf_40 ?_
    refine zj_callV2 (n := 44) (a' := 0) (b' := 0) rfl dX6_targetOf_41 zm_X6_58 (by decide) (hR.i.ltc (c := 1) (by decide)) (by rw [(hR.i.ty1 (c := 1) (by decide))]; rfl) (Nat.le_of_ble_eq_true rfl) (Nat.le_of_ble_eq_true rfl) (Nat.le_of_ble_eq_true rfl) (Nat.le_of_ble_eq_true rfl) (jT_get hR.n.1 (by omega) (by decide) (hR.n.c0 (by omega)) ?_)
    refine zj_iconstN_1 (n := 45) rfl dX6_targetOf_44 ?_
    refine zj_iaddN (n := 46) rfl dX6_targetOf_45 ?_
    refine zj_callV3 (n := 49) (a' := 0) (b' := 0) rfl dX6_targetOf_46 zm_X6_102 (by decide) hR.i.lt (by rw [hR.i.ty]; rfl) (Nat.le_of_ble_eq_true rfl) (Nat.le_of_ble_eq_true rfl) (Nat.le_of_ble_eq_true rfl) (Nat.le_of_ble_eq_true rfl) (jX6_placeFor (many := vsh v g) (few := 0) (but := nI (vfm v 0 g)) (sh := vfm v 0 g) hR.i hR.n hR.g hg rfl hsh (Nat.le_refl _) h6 (fun s hs => hW.holds hg hs) (fun n hn => by have := hW.node hn; omega) (fun n m hn hm e => hW.apart hn hm e) (fun n hn => ⟨rfl, by have := hW.cnt n; omega⟩) (by have : vfm v 0 g < vsh v g := hlt; omega) (fun s hs => by have hl9 : vfm v 0 g < vsh v g := hlt; by_cases q : s = vfm v 0 g; exact (decide_eq_true (congrArg nI q)).trans (decide_eq_true q).symm; exact (decide_eq_false (fun w => q ((nI_eq (by omega) (by omega)).mp w))).trans (decide_eq_false q).symm) (by have : nd v (hol v g (vfm v 0 g)) 0 ≤ 9999 := (hW.node hh).1; have e9 : nd v (hol v g (vfm v 0 g)) 0 = v (10 + 12 * hol v g (vfm v 0 g) + 0) := rfl; omega) ?_)
    exact zj_ireturn dX6_targetOf_49 rfl rfl (zQi h (by rw [if_pos hdm]; rfl))
  · refine zj_iconst_m1 (n := 11) rfl dX6_targetOf_10 ?_
    exact zj_ireturn dX6_targetOf_11 rfl rfl (zQi h (by rw [vmiss_0.mp c7]; rfl))
