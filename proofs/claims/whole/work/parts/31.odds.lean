/-! THE CLASS'S ODDS -/
section Z31
variable {y : MethodName} {cc : ByteArray} {nL : Nat} {ret : Option FieldType} {R : Room} {Q : Option Value → zM → Prop} {X : String → zM → Prop} {a b pc n : Nat} {l : List (Option Value)} {st : List Value} {M : zM}
theorem zj_laloadV {k j : Nat} (hn : pc + 1 = n) (hd : decode cc pc = .ok (.laload, 1)) (hk : k < 133) (ht : zTy k = 22) (hj : j < zLen k) (k9 : zJ y cc nL ret R Q X a b n l (.long (M.2.1 k j) :: st) M) : zJ y cc nL ret R Q X a b pc l (.int (nI j) :: .ref k :: st) M := zj_laload hn hd hk ht (vp_in_nI hj (zLen_lt7 k)) (by rw [nI_clamp (Nat.lt_trans hj (zLen_lt7 k))]; exact k9)
end Z31
def zOd (o : Nat) : Prop := o = 106 ∨ o = 112
theorem zOd.lt {o : Nat} (h : zOd o) : o < 133 := by rcases h with rfl | rfl <;> decide
theorem zOd.ty {o : Nat} (h : zOd o) : zTy o = 3 := by rcases h with rfl | rfl <;> decide
theorem zOd.lt1 {o : Nat} (h : zOd o) : o + 1 < 133 := by rcases h with rfl | rfl <;> decide
theorem zOd.ty1 {o : Nat} (h : zOd o) : zTy (o + 1) = 22 := by rcases h with rfl | rfl <;> decide
theorem zOd.len {o : Nat} (h : zOd o) : zLen (o + 1) = 11 := by rcases h with rfl | rfl <;> decide
theorem zneg1 (x : Int32) : x + (-1) = x - nI 1 := by
  rw [Int32.sub_eq_add_neg]; rfl
theorem jX4_addRisk {o q many : Nat} {Q : Option Value → zM → Prop} {X : String → zM → Prop} {M : zM} (hO : zOd o) (hq : q ≤ 1000) (hm : many ≤ 10) (h : ∀ L, L = zFor (many + 1) (zstepL (o + 1) many (lN q)) M.2.1 → Q none (M.1, L, M.2.2)) : zJ yX4_addRisk cX4_addRisk 6 none rX4_addRisk Q X rX4_addRisk.cells rX4_addRisk.slots 0 (zEnt 6 [.ref o, .int (nI q), .int (nI many)]) [] M := by
  have hz := hO.len
  show zJ yX4_addRisk cX4_addRisk 6 none rX4_addRisk Q X 0 0 0 [some (.ref o), some (.int (nI q)), some (.int (nI many)), none, none, none] [] M
  refine zj_iload2 (n := 1) rfl dX4_addRisk_0 ?_
  refine zj_aload0 (n := 2) rfl dX4_addRisk_1 ?_
  refine zj_getr (n := 5) (q := o + 1) rfl dX4_addRisk_2 zf_X4_9 rfl hO.lt hO.ty rfl ?_
  refine zj_arraylength (n := 6) (v := nI (zLen (o + 1))) rfl dX4_addRisk_5 hO.lt1 (by first | exact Or.inl hO.ty1 | exact Or.inr (Or.inl hO.ty1) | exact Or.inr (Or.inr (Or.inl hO.ty1))) (by rw [if_neg (by rw [hO.ty1]; decide)]; rfl) ?_
  refine zj_iconstN_1 (n := 7) rfl dX4_addRisk_6 ?_
  refine zj_isubN (n := 8) rfl dX4_addRisk_7 (by omega) ?_
  refine zj_iminN (n := 11) rfl dX4_addRisk_8 zm_X4_49 (by decide) (Nat.le_of_ble_eq_true rfl) (by omega) (by omega) ?_
  refine zj_istore3 (n := 12) rfl dX4_addRisk_11 rfl (Nat.le_of_ble_eq_true rfl) ?_
  refine zj_sub (l' := [some (.ref o), some (.int (nI q)), some (.int (nI many)), some (.int (nI (many + 1 - 0) - nI 1)), none, none]) (by simp only [zLe, eq_self, and_true, true_and, Value.int.injEq]; rw [pk_sub (by omega)]; exact congrArg nI (by omega)) ?_
  refine zFor_rule (P := fun t (_ : Unit) => zJ yX4_addRisk cX4_addRisk 6 none rX4_addRisk Q X 0 0 12 [some (.ref o), some (.int (nI q)), some (.int (nI many)), some (.int (nI (many + 1 - t) - nI 1)), none, none] [] (M.1, (zFor t (zstepL (o + 1) many (lN q)) M.2.1), M.2.2)) (n := many + 1) (f := fun _ s => s) (s0 := ()) ?_ ?_
  · intro t _ ht hk
    refine zj_iload3 (n := 13) rfl dX4_addRisk_12 ?_
    refine zj_ifD_lt (n := 16) (tgt := 69) rfl dX4_addRisk_13 (by decide) (by omega) (by omega) (fun c13 => by omega) (fun c13 => ?_)
    rw [pk_sub c13]
    refine zj_iload3 (n := 17) rfl dX4_addRisk_16 ?_
    refine zj_ifN_le (n := 20) (tgt := 31) rfl dX4_addRisk_17 (by decide) (by omega) (fun c17 => ?_) (fun c17 => ?_)
    · refine zj_lconstN_0 (n := 32) rfl dX4_addRisk_31 ?_
      refine zj_lstore4 (n := 34) rfl dX4_addRisk_32 rfl (Nat.le_of_ble_eq_true rfl) ?_
      refine zj_aload0 (n := 35) rfl dX4_addRisk_34 ?_
      refine zj_getr (n := 38) (q := o + 1) rfl dX4_addRisk_35 zf_X4_9 rfl hO.lt hO.ty rfl ?_
      refine zj_iload3 (n := 39) rfl dX4_addRisk_38 ?_
      refine zj_aload0 (n := 40) rfl dX4_addRisk_39 ?_
      refine zj_getr (n := 43) (q := o + 1) rfl dX4_addRisk_40 zf_X4_9 rfl hO.lt hO.ty rfl ?_
      refine zj_iload3 (n := 44) rfl dX4_addRisk_43 ?_
      refine zj_laloadV (n := 45) rfl dX4_addRisk_44 hO.lt1 hO.ty1 (by omega) ?_
      refine zj_sipushN (v := 1000) (n := 48) rfl dX4_addRisk_45 (by decide) ?_
      refine zj_iload1 (n := 49) rfl dX4_addRisk_48 ?_
      refine zj_isubN (n := 50) rfl dX4_addRisk_49 (by omega) ?_
      refine zj_i2lN (n := 51) rfl dX4_addRisk_50 (by omega) ?_
      refine zj_lmul (n := 52) rfl dX4_addRisk_51 ?_
      refine zj_lload4 (n := 54) rfl dX4_addRisk_52 ?_
      refine zj_iload1 (n := 55) rfl dX4_addRisk_54 ?_
      refine zj_i2lN (n := 56) rfl dX4_addRisk_55 (by omega) ?_
      refine zj_lmulN (n := 57) rfl dX4_addRisk_56 ?_
      refine zj_ladd (n := 58) rfl dX4_addRisk_57 ?_
      refine zj_ldc2N (v := 1000) (n := 61) rfl dX4_addRisk_58 zc_X4_54 ?_
      refine zj_ldiv (n := 62) rfl dX4_addRisk_61 (by decide) ?_
      refine zj_lastoreN (n := 63) rfl dX4_addRisk_62 hO.lt1 hO.ty1 (by omega) ?_
      -- 
      refine zj_iinc3 (n := 66) rfl dX4_addRisk_63 rfl (zi_m1 _) (Nat.le_of_ble_eq_true rfl) ?_
      refine zj_goto (tgt := 12) dX4_addRisk_66 (by decide) ?_
      refine zj_sub (l' := [some (.ref o), some (.int (nI q)), some (.int (nI many)), some (.int (nI (many + 1 - (t + 1)) - nI 1)), none, none]) (by simp only [zLe, eq_self, and_true, true_and, Value.int.injEq]; rw [zneg1, show many + 1 - (t + 1) = many + 1 - t - 1 by omega]) ?_
      refine zj_eq rfl rfl ?_ hk
      refine congrArg (fun L => (M.1, L, M.2.2)) ?_
      rw [zFor_succ]
      show zU _ (o + 1) (many + 1 - t - 1) _ = zU _ (o + 1) (many - t) _
      rw [show many + 1 - t - 1 = many - t by omega] at *
      rw [zl64, lN_sub hq]
      have e0 : lN (0 * q) = 0 := by rw [Nat.zero_mul]; rfl
      rw [if_pos c17, e0]
    · refine zj_aload0 (n := 21) rfl dX4_addRisk_20 ?_
      refine zj_getr (n := 24) (q := o + 1) rfl dX4_addRisk_21 zf_X4_9 rfl hO.lt hO.ty rfl ?_
      refine zj_iload3 (n := 25) rfl dX4_addRisk_24 ?_
      refine zj_iconstN_1 (n := 26) rfl dX4_addRisk_25 ?_
      refine zj_isubN (n := 27) rfl dX4_addRisk_26 (by omega) ?_
      refine zj_laloadV (n := 28) rfl dX4_addRisk_27 hO.lt1 hO.ty1 (by omega) ?_
      refine zj_goto (tgt := 32) dX4_addRisk_28 (by decide) ?_
      refine zj_lstore4 (n := 34) rfl dX4_addRisk_32 rfl (Nat.le_of_ble_eq_true rfl) ?_
      refine zj_aload0 (n := 35) rfl dX4_addRisk_34 ?_
      refine zj_getr (n := 38) (q := o + 1) rfl dX4_addRisk_35 zf_X4_9 rfl hO.lt hO.ty rfl ?_
      refine zj_iload3 (n := 39) rfl dX4_addRisk_38 ?_
      refine zj_aload0 (n := 40) rfl dX4_addRisk_39 ?_
      refine zj_getr (n := 43) (q := o + 1) rfl dX4_addRisk_40 zf_X4_9 rfl hO.lt hO.ty rfl ?_
      refine zj_iload3 (n := 44) rfl dX4_addRisk_43 ?_
      refine zj_laloadV (n := 45) rfl dX4_addRisk_44 hO.lt1 hO.ty1 (by omega) ?_
      refine zj_sipushN (v := 1000) (n := 48) rfl dX4_addRisk_45 (by decide) ?_
      refine zj_iload1 (n := 49) rfl dX4_addRisk_48 ?_
      refine zj_isubN (n := 50) rfl dX4_addRisk_49 (by omega) ?_
      refine zj_i2lN (n := 51) rfl dX4_addRisk_50 (by omega) ?_
      refine zj_lmul (n := 52) rfl dX4_addRisk_51 ?_
      refine zj_lload4 (n := 54) rfl dX4_addRisk_52 ?_
      refine zj_iload1 (n := 55) rfl dX4_addRisk_54 ?_
      refine zj_i2lN (n := 56) rfl dX4_addRisk_55 (by omega) ?_
      refine zj_lmul (n := 57) rfl dX4_addRisk_56 ?_
      refine zj_ladd (n := 58) rfl dX4_addRisk_57 ?_
      refine zj_ldc2N (v := 1000) (n := 61) rfl dX4_addRisk_58 zc_X4_54 ?_
      refine zj_ldiv (n := 62) rfl dX4_addRisk_61 (by decide) ?_
      refine zj_lastoreN (n := 63) rfl dX4_addRisk_62 hO.lt1 hO.ty1 (by omega) ?_
      -- 
      refine zj_iinc3 (n := 66) rfl dX4_addRisk_63 rfl (zi_m1 _) (Nat.le_of_ble_eq_true rfl) ?_
      refine zj_goto (tgt := 12) dX4_addRisk_66 (by decide) ?_
      refine zj_sub (l' := [some (.ref o), some (.int (nI q)), some (.int (nI many)), some (.int (nI (many + 1 - (t + 1)) - nI 1)), none, none]) (by simp only [zLe, eq_self, and_true, true_and, Value.int.injEq]; rw [zneg1, show many + 1 - (t + 1) = many + 1 - t - 1 by omega]) ?_
      refine zj_eq rfl rfl ?_ hk
      refine congrArg (fun L => (M.1, L, M.2.2)) ?_
      rw [zFor_succ]
      show zU _ (o + 1) (many + 1 - t - 1) _ = zU _ (o + 1) (many - t) _
      rw [show many + 1 - t - 1 = many - t by omega] at *
      rw [zl64, lN_sub hq]
      rw [if_neg (by omega)]
  · skip
    refine zj_iload3 (n := 13) rfl dX4_addRisk_12 ?_
    refine zj_ifD_lt (n := 16) (tgt := 69) rfl dX4_addRisk_13 (by decide) (by omega) (by omega) (fun c13 => ?_) (fun c13 => by omega)
    exact zj_return dX4_addRisk_69 rfl (h _ (by rfl))
theorem jX4_lossOf {o r g d : Nat} {v : zV} {Q : Option Value → zM → Prop} {X : String → zM → Prop} {M : zM} (hO : zOd o) (hR : zRg M r v) (hW : zWF v) (hg : g < v 8) (hd2 : d < 2 ^ 16) (h : ∀ L, (∀ c, c ≠ o + 1 → L c = M.2.1 c) → Q (some (.int (nI (vloss v d g)))) (M.1, L, M.2.2)) : zJ yX4_lossOf cX4_lossOf 10 (some .int) rX4_lossOf Q X rX4_lossOf.cells rX4_lossOf.slots 0 (zEnt 10 [.ref o, .ref r, .int (nI g), .int (nI d)]) [] M := by
  have hz := hO.len
  have hgh := hW.gh hg
  have h6 := hW.nN
  have h8 := hW.gN
  have hsh := (hW.sh hg).2
  have hgr := hW.grp hg
  have hd1 : 1 ≤ v (268 + 23 * g + 2) := hgr.2.2.1
  have hd6 : v (268 + 23 * g + 2) ≤ 6 := hgr.2.2.2.1
  have hvn := vnav_le (v := v) (d := d) (g := g)
  have hml := zMask_lt (vsh v g) (fun s => vav v d g s)
  have hm10 : zMask (vsh v g) (fun s => vav v d g s) < 1024 := Nat.lt_of_lt_of_le hml (Nat.pow_le_pow_right (n := 2) (by decide) hsh)
  show zJ yX4_lossOf cX4_lossOf 10 (some .int) rX4_lossOf Q X 0 0 0 [some (.ref o), some (.ref r), some (.int (nI g)), some (.int (nI d)), none, none, none, none, none, none] [] M
  refine zj_aload1 (n := 1) rfl dX4_lossOf_0 ?_
  refine zj_iload2 (n := 2) rfl dX4_lossOf_1 ?_
  refine zj_iload3 (n := 3) rfl dX4_lossOf_2 ?_
  refine zj_callV2 (n := 6) (a' := 0) (b' := 0) rfl dX4_lossOf_3 zm_X4_15 (by decide) hR.i.lt (by rw [hR.i.ty]; rfl) (Nat.le_of_ble_eq_true rfl) (Nat.le_of_ble_eq_true rfl) (Nat.le_of_ble_eq_true rfl) (Nat.le_of_ble_eq_true rfl) (jX6_availableSet hR hW hg hd2 ?_)
  refine zj_istore4 (n := 8) rfl dX4_lossOf_6 rfl (Nat.le_of_ble_eq_true rfl) ?_
  refine zj_iload4 (n := 10) rfl dX4_lossOf_8 ?_
  refine zj_callS1 (n := 13) (a' := 0) (b' := 0) rfl dX4_lossOf_10 zm_X4_21 (by decide) (Nat.le_of_ble_eq_true rfl) (Nat.le_of_ble_eq_true rfl) (Nat.le_of_ble_eq_true rfl) (Nat.le_of_ble_eq_true rfl) (jJ_bitCountN hm10 ?_)
  rw [zpop_nav hsh]
  refine zj_istore5 (n := 15) rfl dX4_lossOf_13 rfl (Nat.le_of_ble_eq_true rfl) ?_
  refine zj_iload5 (n := 17) rfl dX4_lossOf_15 ?_
  refine zj_aload1 (n := 18) rfl dX4_lossOf_17 ?_
  refine zj_getr (n := 21) (q := r + 5) rfl dX4_lossOf_18 zf_X4_27 rfl hR.i.lt hR.i.ty rfl ?_
  refine zj_iload2 (n := 22) rfl dX4_lossOf_21 ?_
  refine zj_iconstN_2 (n := 23) rfl dX4_lossOf_22 ?_
  refine zj_callV2 (n := 26) (a' := 0) (b' := 0) rfl dX4_lossOf_23 zm_X4_31 (by decide) (hR.i.ltc (c := 5) (by decide)) (by rw [(hR.i.ty1 (c := 5) (by decide))]; rfl) (Nat.le_of_ble_eq_true rfl) (Nat.le_of_ble_eq_true rfl) (Nat.le_of_ble_eq_true rfl) (Nat.le_of_ble_eq_true rfl) (jT_get hR.g.1 (by omega) (by decide) (hR.g.c (by omega) (by decide)) ?_)
  refine zj_isub (n := 27) rfl dX4_lossOf_26 ?_
  refine zj_istore6 (n := 29) rfl dX4_lossOf_27 rfl (Nat.le_of_ble_eq_true rfl) ?_
  refine zj_iload6 (n := 31) rfl dX4_lossOf_29 ?_
  refine zj_ifD_ge (n := 34) (tgt := 37) rfl dX4_lossOf_31 (by decide) (by omega) (by omega) (fun c31 => ?_) (fun c31 => ?_)
  · rw [pk_sub c31]
    refine zj_iconstN_0 (n := 38) rfl dX4_lossOf_37 ?_
    refine zj_istore7 (n := 40) rfl dX4_lossOf_38 rfl (Nat.le_of_ble_eq_true rfl) ?_
    refine zFor_rule (P := fun j (_ : Unit) => ∀ L, (∀ i, i < j → L (o + 1) i = lN (vp0 i)) → (∀ c, c ≠ o + 1 → L c = M.2.1 c) → zJ yX4_lossOf cX4_lossOf 10 (some .int) rX4_lossOf Q X 0 0 40 [some (.ref o), some (.ref r), some (.int (nI g)), some (.int (nI d)), some (.int (nI (zMask (vsh v g) (fun s => vav v d g s)))), some (.int (nI (vnav v d g))), some (.int (nI (vnav v d g - v (268 + 23 * g + 2)))), some (.int (nI j)), none, none] [] (M.1, L, M.2.2)) (n := 11) (f := fun _ s => s) (s0 := ()) ?_ ?_ M.2.1 (fun i hi => absurd hi (Nat.not_lt_zero i)) (fun _ _ => rfl)
    · intro j _ hj hk L hL hF
      refine zj_iload7 (n := 42) rfl dX4_lossOf_40 ?_
      refine zj_aload0 (n := 43) rfl dX4_lossOf_42 ?_
      refine zj_getr (n := 46) (q := o + 1) rfl dX4_lossOf_43 zf_X4_9 rfl hO.lt hO.ty rfl ?_
      refine zj_arraylength (n := 47) (v := nI (zLen (o + 1))) rfl dX4_lossOf_46 hO.lt1 (by first | exact Or.inl hO.ty1 | exact Or.inr (Or.inl hO.ty1) | exact Or.inr (Or.inr (Or.inl hO.ty1))) (by rw [if_neg (by rw [hO.ty1]; decide)]; rfl) ?_
      refine zj_icmpN_ge (n := 50) (tgt := 75) rfl dX4_lossOf_47 (by decide) (by omega) (by omega) (fun c47 => by omega) (fun c47 => ?_)
      refine zj_aload0 (n := 51) rfl dX4_lossOf_50 ?_
      refine zj_getr (n := 54) (q := o + 1) rfl dX4_lossOf_51 zf_X4_9 rfl hO.lt hO.ty rfl ?_
      refine zj_iload7 (n := 56) rfl dX4_lossOf_54 ?_
      refine zj_iload7 (n := 58) rfl dX4_lossOf_56 ?_
      refine zj_ifN_ne (n := 61) (tgt := 67) rfl dX4_lossOf_58 (by decide) (by omega) (fun c58 => ?_) (fun c58 => ?_)
      · refine zj_lconstN_0 (n := 68) rfl dX4_lossOf_67 ?_
        refine zj_lastoreN (n := 69) rfl dX4_lossOf_68 hO.lt1 hO.ty1 (by omega) ?_
        refine zj_iincN7 (n := 72) rfl dX4_lossOf_69 rfl (Nat.le_of_ble_eq_true rfl) ?_
        refine zj_goto (tgt := 40) dX4_lossOf_72 (by decide) ?_
        refine hk _ (fun i hi => ?_) (fun c hc => (zU_off hc).trans (hF c hc))
        by_cases e : i = j
        · subst e
          rw [zU_eq]
          unfold vp0
          rw [if_neg (by omega)]
        · rw [zU_nj e]; exact hL i (by omega)
      · refine zj_ldc2N (v := 1000000000) (n := 64) rfl dX4_lossOf_61 zc_X4_37 ?_
        refine zj_goto (tgt := 68) dX4_lossOf_64 (by decide) ?_
        refine zj_lastoreN (n := 69) rfl dX4_lossOf_68 hO.lt1 hO.ty1 (by omega) ?_
        refine zj_iincN7 (n := 72) rfl dX4_lossOf_69 rfl (Nat.le_of_ble_eq_true rfl) ?_
        refine zj_goto (tgt := 40) dX4_lossOf_72 (by decide) ?_
        refine hk _ (fun i hi => ?_) (fun c hc => (zU_off hc).trans (hF c hc))
        by_cases e : i = j
        · subst e
          rw [zU_eq]
          unfold vp0
          rw [if_pos c58]
        · rw [zU_nj e]; exact hL i (by omega)
    · intro L hL hF
      refine zj_iload7 (n := 42) rfl dX4_lossOf_40 ?_
      refine zj_aload0 (n := 43) rfl dX4_lossOf_42 ?_
      refine zj_getr (n := 46) (q := o + 1) rfl dX4_lossOf_43 zf_X4_9 rfl hO.lt hO.ty rfl ?_
      refine zj_arraylength (n := 47) (v := nI (zLen (o + 1))) rfl dX4_lossOf_46 hO.lt1 (by first | exact Or.inl hO.ty1 | exact Or.inr (Or.inl hO.ty1) | exact Or.inr (Or.inr (Or.inl hO.ty1))) (by rw [if_neg (by rw [hO.ty1]; decide)]; rfl) ?_
      refine zj_icmpN_ge (n := 50) (tgt := 75) rfl dX4_lossOf_47 (by decide) (by omega) (by omega) (fun c47 => ?_) (fun c47 => by omega)
      refine zj_iconstN_0 (n := 76) rfl dX4_lossOf_75 ?_
      refine zj_istore7 (n := 78) rfl dX4_lossOf_76 rfl (Nat.le_of_ble_eq_true rfl) ?_
      have hL0 : zLr L (o + 1) 11 (zFor (min 0 (vsh v g)) (fun s p => if vav v d g s then vstepP (vnav v d g) (nd v (hol v g s) 2) p else p) vp0) := by rw [Nat.zero_min]; exact hL
      refine zFor_rule (P := fun s (_ : Unit) => ∀ L, zLr L (o + 1) 11 (zFor (min s (vsh v g)) (fun s p => if vav v d g s then vstepP (vnav v d g) (nd v (hol v g s) 2) p else p) vp0) → (∀ c, c ≠ o + 1 → L c = M.2.1 c) → zJ yX4_lossOf cX4_lossOf 10 (some .int) rX4_lossOf Q X 0 0 78 [some (.ref o), some (.ref r), some (.int (nI g)), some (.int (nI d)), some (.int (nI (zMask (vsh v g) (fun s => vav v d g s)))), some (.int (nI (vnav v d g))), some (.int (nI (vnav v d g - v (268 + 23 * g + 2)))), some (.int (nI s)), none, none] [] (M.1, L, M.2.2)) (n := 10) (f := fun _ s => s) (s0 := ()) ?_ ?_ L hL0 hF
      · intro s _ hs hk L hL hF
        refine zj_iload7 (n := 80) rfl dX4_lossOf_78 ?_
        refine zj_bipushN (v := 10) (n := 82) rfl dX4_lossOf_80 (by decide) ?_
        refine zj_icmpN_ge (n := 85) (tgt := 122) rfl dX4_lossOf_82 (by decide) (by omega) (by omega) (fun c82 => by omega) (fun c82 => ?_)
        refine zj_iload4 (n := 87) rfl dX4_lossOf_85 ?_
        refine zj_iload7 (n := 89) rfl dX4_lossOf_87 ?_
        refine zj_ishrN (n := 90) rfl dX4_lossOf_89 (by omega) (by omega) ?_
        refine zj_iconstN_1 (n := 91) rfl dX4_lossOf_90 ?_
        refine zj_iandN1 (n := 92) rfl dX4_lossOf_91 (Nat.lt_of_le_of_lt (Nat.div_le_self _ _) (by omega)) ?_
        refine zj_ifN_eq (n := 95) (tgt := 116) rfl dX4_lossOf_92 (by decide) (by omega) (fun c92 => ?_) (fun c92 => ?_)
        · have hb9 := ztb0 c92
          rw [zMask_bit] at hb9
          refine zj_iincN7 (n := 119) rfl dX4_lossOf_116 rfl (Nat.le_of_ble_eq_true rfl) ?_
          refine zj_goto (tgt := 78) dX4_lossOf_119 (by decide) ?_
          refine hk L ?_ hF
          rcases Nat.lt_or_ge s (vsh v g) with q | q
          · have hv9 : vav v d g s = false := by rw [decide_eq_true q, Bool.true_and] at hb9; exact hb9
            rw [show min (s + 1) (vsh v g) = s + 1 by omega, zFor_succ, hv9, if_neg (by decide)]
            rw [show min s (vsh v g) = s by omega] at hL
            exact hL
          · rw [show min (s + 1) (vsh v g) = vsh v g by omega]
            rw [show min s (vsh v g) = vsh v g by omega] at hL
            exact hL
        · have hb9 := ztb c92
          rw [zMask_bit, Bool.and_eq_true, decide_eq_true_eq] at hb9
          obtain ⟨hs9, hv9⟩ := hb9
          have hh9 : hol v g s < v 6 := hW.holds hg hs9
          have hr9 : v (10 + 12 * hol v g s + 2) ≤ 999 := (hW.node hh9).2.2.1
          refine zj_aload0 (n := 96) rfl dX4_lossOf_95 ?_
          refine zj_aload1 (n := 97) rfl dX4_lossOf_96 ?_
          refine zj_getr (n := 100) (q := r + 1) rfl dX4_lossOf_97 zf_X4_39 rfl hR.i.lt hR.i.ty rfl ?_
          refine zj_aload1 (n := 101) rfl dX4_lossOf_100 ?_
          refine zj_iload2 (n := 102) rfl dX4_lossOf_101 ?_
          refine zj_iload7 (n := 104) rfl dX4_lossOf_102 ?_
          refine zj_callV2 (n := 107) (a' := 0) (b' := 0) rfl dX4_lossOf_104 zm_X4_42 (by decide) hR.i.lt (by rw [hR.i.ty]; rfl) (Nat.le_of_ble_eq_true rfl) (Nat.le_of_ble_eq_true rfl) (Nat.le_of_ble_eq_true rfl) (Nat.le_of_ble_eq_true rfl) (jX6_nodeWith (hR.cg (fun _ _ _ => rfl)) hW hg hs9 ?_)
          refine zj_iconstN_2 (n := 108) rfl dX4_lossOf_107 ?_
          refine zj_callV2 (n := 111) (a' := 0) (b' := 0) rfl dX4_lossOf_108 zm_X4_31 (by decide) (hR.i.ltc (c := 1) (by decide)) (by rw [(hR.i.ty1 (c := 1) (by decide))]; rfl) (Nat.le_of_ble_eq_true rfl) (Nat.le_of_ble_eq_true rfl) (Nat.le_of_ble_eq_true rfl) (Nat.le_of_ble_eq_true rfl) (jT_get (hR.cg (fun _ _ _ => rfl)).n.1 (by omega) (by decide) ((hR.cg (fun _ _ _ => rfl)).n.c2 (by omega)) ?_)
          refine zj_iload5 (n := 113) rfl dX4_lossOf_111 ?_
          refine zj_callV2 (n := 116) (a' := 0) (b' := 0) rfl dX4_lossOf_113 zm_X4_45 (by decide) hO.lt (by rw [hO.ty]; rfl) (Nat.le_of_ble_eq_true rfl) (Nat.le_of_ble_eq_true rfl) (Nat.le_of_ble_eq_true rfl) (Nat.le_of_ble_eq_true rfl) (jX4_addRisk hO (by omega) (by omega) ?_)
          intro L2 hL2
          refine zj_iincN7 (n := 119) rfl dX4_lossOf_116 rfl (Nat.le_of_ble_eq_true rfl) ?_
          refine zj_goto (tgt := 78) dX4_lossOf_119 (by decide) ?_
          subst hL2
          rw [show min s (vsh v g) = s by omega] at hL
          have hpb : ∀ j, zFor s (fun s p => if vav v d g s then vstepP (vnav v d g) (nd v (hol v g s) 2) p else p) vp0 j ≤ 1000000000 := fun j => Nat.le_trans (vsum_le (Nat.lt_succ_self j)) (vprob_part (hW.risk hg) (Nat.le_of_lt hs9) (j + 1))
          obtain ⟨hn1, hn2⟩ := zstepL_row hL (show vnav v d g ≤ 10 by omega) hr9 hpb
          refine hk _ ?_ (fun c hc => (hn2 c hc).trans (hF c hc))
          have e9 : zFor (s + 1) (fun s p => if vav v d g s then vstepP (vnav v d g) (nd v (hol v g s) 2) p else p) vp0 = vstepP (vnav v d g) (nd v (hol v g s) 2) (zFor s (fun s p => if vav v d g s then vstepP (vnav v d g) (nd v (hol v g s) 2) p else p) vp0) := by rw [zFor_succ, hv9, if_pos rfl]
          rw [show min (s + 1) (vsh v g) = s + 1 by omega, e9]
          exact hn1
      · intro L hL3 hF
        refine zj_iload7 (n := 80) rfl dX4_lossOf_78 ?_
        refine zj_bipushN (v := 10) (n := 82) rfl dX4_lossOf_80 (by decide) ?_
        refine zj_icmpN_ge (n := 85) (tgt := 122) rfl dX4_lossOf_82 (by decide) (by omega) (by omega) (fun c82 => ?_) (fun c82 => by omega)
        refine zj_lconstN_0 (n := 123) rfl dX4_lossOf_122 ?_
        refine zj_lstore7 (n := 125) rfl dX4_lossOf_123 rfl (Nat.le_of_ble_eq_true rfl) ?_
        refine zj_iload6 (n := 127) rfl dX4_lossOf_125 ?_
        refine zj_iconstN_1 (n := 128) rfl dX4_lossOf_127 ?_
        refine zj_iaddN (n := 129) rfl dX4_lossOf_128 ?_
        refine zj_istore9 (n := 131) rfl dX4_lossOf_129 rfl (Nat.le_of_ble_eq_true rfl) ?_
        refine zFor_rule (P := fun i (_ : Unit) => zJ yX4_lossOf cX4_lossOf 10 (some .int) rX4_lossOf Q X 0 0 131 [some (.ref o), some (.ref r), some (.int (nI g)), some (.int (nI d)), some (.int (nI (zMask (vsh v g) (fun s => vav v d g s)))), some (.int (nI (vnav v d g))), some (.int (nI (vnav v d g - v (268 + 23 * g + 2)))), some (.long (lN (zFor i (fun i a => a + vprob v d g (vnav v d g - gp v g 2 + 1 + i)) 0))), none, some (.int (nI (vnav v d g - v (268 + 23 * g + 2) + 1 + i)))] [] (M.1, L, M.2.2)) (n := v (268 + 23 * g + 2)) (f := fun _ s => s) (s0 := ()) ?_ ?_
        · intro i _ hi9 hk
          refine zj_iload9 (n := 133) rfl dX4_lossOf_131 ?_
          refine zj_iload5 (n := 135) rfl dX4_lossOf_133 ?_
          refine zj_icmpN_gt (n := 138) (tgt := 166) rfl dX4_lossOf_135 (by decide) (by omega) (by omega) (fun c135 => by omega) (fun c135 => ?_)
          refine zj_iload9 (n := 140) rfl dX4_lossOf_138 ?_
          refine zj_aload0 (n := 141) rfl dX4_lossOf_140 ?_
          refine zj_getr (n := 144) (q := o + 1) rfl dX4_lossOf_141 zf_X4_9 rfl hO.lt hO.ty rfl ?_
          refine zj_arraylength (n := 145) (v := nI (zLen (o + 1))) rfl dX4_lossOf_144 hO.lt1 (by first | exact Or.inl hO.ty1 | exact Or.inr (Or.inl hO.ty1) | exact Or.inr (Or.inr (Or.inl hO.ty1))) (by rw [if_neg (by rw [hO.ty1]; decide)]; rfl) ?_
          refine zj_icmpN_ge (n := 148) (tgt := 166) rfl dX4_lossOf_145 (by decide) (by omega) (by omega) (fun c145 => by omega) (fun c145 => ?_)
          refine zj_lload7 (n := 150) rfl dX4_lossOf_148 ?_
          refine zj_aload0 (n := 151) rfl dX4_lossOf_150 ?_
          refine zj_getr (n := 154) (q := o + 1) rfl dX4_lossOf_151 zf_X4_9 rfl hO.lt hO.ty rfl ?_
          refine zj_iload9 (n := 156) rfl dX4_lossOf_154 ?_
          refine zj_laloadN (e := vprob v d g (vnav v d g - v (268 + 23 * g + 2) + 1 + i)) (n := 157) rfl dX4_lossOf_156 hO.lt1 hO.ty1 (by omega) (by dsimp only; rw [hL3 _ (by omega), Nat.min_eq_right hsh]; rfl) ?_
          refine zj_laddN (n := 158) rfl dX4_lossOf_157 ?_
          refine zj_lstore7 (n := 160) rfl dX4_lossOf_158 rfl (Nat.le_of_ble_eq_true rfl) ?_
          refine zj_iincN9 (n := 163) rfl dX4_lossOf_160 rfl (Nat.le_of_ble_eq_true rfl) ?_
          refine zj_goto (tgt := 131) dX4_lossOf_163 (by decide) ?_
          exact hk
        · skip
          refine zj_iload9 (n := 133) rfl dX4_lossOf_131 ?_
          refine zj_iload5 (n := 135) rfl dX4_lossOf_133 ?_
          refine zj_icmpN_gt (n := 138) (tgt := 166) rfl dX4_lossOf_135 (by decide) (by omega) (by omega) (fun c135 => ?_) (fun c135 => by omega)
          refine zj_lload7 (n := 168) rfl dX4_lossOf_166 ?_
          refine zj_l2iN (n := 169) rfl dX4_lossOf_168 ?_
          refine zj_ireturn dX4_lossOf_169 rfl rfl ?_
          have hlo : vlost v d g = false := decide_eq_false (show ¬ vnav v d g < v (268 + 23 * g + 2) by omega)
          have := h L hF
          unfold vloss at this
          rw [hlo, if_neg (by decide)] at this
          exact this
  · refine zj_ldcN (v := 1000000000) (n := 36) rfl dX4_lossOf_34 zc_X4_36 ?_
    refine zj_ireturn dX4_lossOf_36 rfl rfl ?_
    have hlo : vlost v d g = true := decide_eq_true (show vnav v d g < v (268 + 23 * g + 2) by omega)
    have := h M.2.1 (fun _ _ => rfl)
    unfold vloss at this
    rw [hlo, if_pos rfl] at this
    exact this
