/-! THE CLASS'S RINGS: questions -/
theorem jJ_floorMod {x : Int32} {Q : Option Value → zM → Prop} {X : String → zM → Prop} {M : zM} (h : Q (some (.int (zfmod x))) M) : zJ yJ9_floorMod_7cf53 cJ9_floorMod_7cf53 3 (some .int) rJ9_floorMod_7cf53 Q X rJ9_floorMod_7cf53.cells rJ9_floorMod_7cf53.slots 0 (zEnt 3 [.int x, .int (nI 10000)]) [] M := by
  show zJ yJ9_floorMod_7cf53 cJ9_floorMod_7cf53 3 (some .int) rJ9_floorMod_7cf53 Q X 0 0 0 [some (.int x), some (.int (nI 10000)), none] [] M
  refine zj_iload0 (n := 1) rfl dJ9_floorMod_7cf53_0 ?_
  refine zj_iload1 (n := 2) rfl dJ9_floorMod_7cf53_1 ?_
  refine zj_irem (n := 3) rfl dJ9_floorMod_7cf53_2 (by decide) ?_
  refine zj_istore2 (n := 4) rfl dJ9_floorMod_7cf53_3 rfl (Nat.le_of_ble_eq_true rfl) ?_
  refine zj_iload0 (n := 5) rfl dJ9_floorMod_7cf53_4 ?_
  refine zj_iload1 (n := 6) rfl dJ9_floorMod_7cf53_5 ?_
  refine zj_ixor (n := 7) rfl dJ9_floorMod_7cf53_6 ?_
  refine zj_if_ge (n := 10) (tgt := 18) rfl dJ9_floorMod_7cf53_7 (by decide) (fun c7 => ?_) (fun c7 => ?_)
  · refine zj_iload2 (n := 19) rfl dJ9_floorMod_7cf53_18 ?_
    exact zj_ireturn dJ9_floorMod_7cf53_19 rfl rfl (zQi h (by unfold zfmod; rw [if_pos (by assumption)]))
  · refine zj_iload2 (n := 11) rfl dJ9_floorMod_7cf53_10 ?_
    refine zj_if_eq (n := 14) (tgt := 18) rfl dJ9_floorMod_7cf53_11 (by decide) (fun c11 => ?_) (fun c11 => ?_)
    · refine zj_iload2 (n := 19) rfl dJ9_floorMod_7cf53_18 ?_
      exact zj_ireturn dJ9_floorMod_7cf53_19 rfl rfl (zQi h (by unfold zfmod; rw [if_neg (by assumption), if_pos (by assumption)]))
    · refine zj_iload2 (n := 15) rfl dJ9_floorMod_7cf53_14 ?_
      refine zj_iload1 (n := 16) rfl dJ9_floorMod_7cf53_15 ?_
      refine zj_iadd (n := 17) rfl dJ9_floorMod_7cf53_16 ?_
      exact zj_ireturn dJ9_floorMod_7cf53_17 rfl rfl (zQi h (by unfold zfmod; rw [if_neg (by assumption), if_neg (by assumption)]))
theorem jJ_bitCount {x : Int32} {Q : Option Value → zM → Prop} {X : String → zM → Prop} {M : zM} (h : Q (some (.int (zbc x))) M) : zJ yJ6_bitCount_0f7a4 cJ6_bitCount_0f7a4 1 (some .int) rJ6_bitCount_0f7a4 Q X rJ6_bitCount_0f7a4.cells rJ6_bitCount_0f7a4.slots 0 (zEnt 1 [.int x]) [] M := by
  show zJ yJ6_bitCount_0f7a4 cJ6_bitCount_0f7a4 1 (some .int) rJ6_bitCount_0f7a4 Q X 0 0 0 [some (.int x)] [] M
  refine zj_iload0 (n := 1) rfl dJ6_bitCount_0f7a4_0 ?_
  refine zj_iload0 (n := 2) rfl dJ6_bitCount_0f7a4_1 ?_
  refine zj_iconst_1 (n := 3) rfl dJ6_bitCount_0f7a4_2 ?_
  refine zj_iushr (n := 4) rfl dJ6_bitCount_0f7a4_3 ?_
  refine zj_ldcw (n := 7) rfl dJ6_bitCount_0f7a4_4 zc_J6_265 ?_
  refine zj_iand (n := 8) rfl dJ6_bitCount_0f7a4_7 ?_
  refine zj_isub (n := 9) rfl dJ6_bitCount_0f7a4_8 ?_
  refine zj_istore0 (n := 10) rfl dJ6_bitCount_0f7a4_9 (Nat.le_of_ble_eq_true rfl) ?_
  refine zj_iload0 (n := 11) rfl dJ6_bitCount_0f7a4_10 ?_
  refine zj_ldcw (n := 14) rfl dJ6_bitCount_0f7a4_11 zc_J6_266 ?_
  refine zj_iand (n := 15) rfl dJ6_bitCount_0f7a4_14 ?_
  refine zj_iload0 (n := 16) rfl dJ6_bitCount_0f7a4_15 ?_
  refine zj_iconst_2 (n := 17) rfl dJ6_bitCount_0f7a4_16 ?_
  refine zj_iushr (n := 18) rfl dJ6_bitCount_0f7a4_17 ?_
  refine zj_ldcw (n := 21) rfl dJ6_bitCount_0f7a4_18 zc_J6_266 ?_
  refine zj_iand (n := 22) rfl dJ6_bitCount_0f7a4_21 ?_
  refine zj_iadd (n := 23) rfl dJ6_bitCount_0f7a4_22 ?_
  refine zj_istore0 (n := 24) rfl dJ6_bitCount_0f7a4_23 (Nat.le_of_ble_eq_true rfl) ?_
  refine zj_iload0 (n := 25) rfl dJ6_bitCount_0f7a4_24 ?_
  refine zj_iload0 (n := 26) rfl dJ6_bitCount_0f7a4_25 ?_
  refine zj_iconst_4 (n := 27) rfl dJ6_bitCount_0f7a4_26 ?_
  refine zj_iushr (n := 28) rfl dJ6_bitCount_0f7a4_27 ?_
  refine zj_iadd (n := 29) rfl dJ6_bitCount_0f7a4_28 ?_
  refine zj_ldcw (n := 32) rfl dJ6_bitCount_0f7a4_29 zc_J6_267 ?_
  refine zj_iand (n := 33) rfl dJ6_bitCount_0f7a4_32 ?_
  refine zj_istore0 (n := 34) rfl dJ6_bitCount_0f7a4_33 (Nat.le_of_ble_eq_true rfl) ?_
  refine zj_iload0 (n := 35) rfl dJ6_bitCount_0f7a4_34 ?_
  refine zj_iload0 (n := 36) rfl dJ6_bitCount_0f7a4_35 ?_
  refine zj_bipush (v := 8) (n := 38) rfl dJ6_bitCount_0f7a4_36 (by decide) ?_
  refine zj_iushr (n := 39) rfl dJ6_bitCount_0f7a4_38 ?_
  refine zj_iadd (n := 40) rfl dJ6_bitCount_0f7a4_39 ?_
  refine zj_istore0 (n := 41) rfl dJ6_bitCount_0f7a4_40 (Nat.le_of_ble_eq_true rfl) ?_
  refine zj_iload0 (n := 42) rfl dJ6_bitCount_0f7a4_41 ?_
  refine zj_iload0 (n := 43) rfl dJ6_bitCount_0f7a4_42 ?_
  refine zj_bipush (v := 16) (n := 45) rfl dJ6_bitCount_0f7a4_43 (by decide) ?_
  refine zj_iushr (n := 46) rfl dJ6_bitCount_0f7a4_45 ?_
  refine zj_iadd (n := 47) rfl dJ6_bitCount_0f7a4_46 ?_
  refine zj_istore0 (n := 48) rfl dJ6_bitCount_0f7a4_47 (Nat.le_of_ble_eq_true rfl) ?_
  refine zj_iload0 (n := 49) rfl dJ6_bitCount_0f7a4_48 ?_
  refine zj_bipush (v := 63) (n := 51) rfl dJ6_bitCount_0f7a4_49 (by decide) ?_
  refine zj_iand (n := 52) rfl dJ6_bitCount_0f7a4_51 ?_
  exact zj_ireturn dJ6_bitCount_0f7a4_52 rfl rfl h
theorem jJ_bitCountN {m : Nat} {Q : Option Value → zM → Prop} {X : String → zM → Prop} {M : zM} (hm : m < 1024) (h : Q (some (.int (nI (zpop m)))) M) : zJ yJ6_bitCount_0f7a4 cJ6_bitCount_0f7a4 1 (some .int) rJ6_bitCount_0f7a4 Q X rJ6_bitCount_0f7a4.cells rJ6_bitCount_0f7a4.slots 0 (zEnt 1 [.int (nI m)]) [] M := jJ_bitCount (by rw [zbc_at m hm]; exact h)
theorem jX9_lowestOf {n : Nat} {p : Nat → Bool} {Q : Option Value → zM → Prop} {X : String → zM → Prop} {M : zM} (hn : n ≤ 10) (hx : zFst n p < n) (h : Q (some (.int (nI (zFst n p)))) M) : zJ yX9_lowestOf cX9_lowestOf 1 (some .int) rX9_lowestOf Q X rX9_lowestOf.cells rX9_lowestOf.slots 0 (zEnt 1 [.int (nI (zMask n p))]) [] M := by
  have hl : zMask n p < 1024 := Nat.lt_of_lt_of_le (zMask_lt n p) (Nat.pow_le_pow_right (n := 2) (by decide) hn)
  have hz : zMask n p ≠ 0 := fun e => by
    have := zMask_ne0.mp e _ hx
    rw [zFst_lt hx] at this; cases this
  rw [← zfst_mask hn hx, ← zlow_at _ hl hz] at h
  show zJ yX9_lowestOf cX9_lowestOf 1 (some .int) rX9_lowestOf Q X 0 0 0 [some (.int (nI (zMask n p)))] [] M
  refine zj_iload0 (n := 1) rfl dX9_lowestOf_0 ?_
  refine zj_iload0 (n := 2) rfl dX9_lowestOf_1 ?_
  refine zj_ineg (n := 3) rfl dX9_lowestOf_2 ?_
  refine zj_iand (n := 4) rfl dX9_lowestOf_3 ?_
  refine zj_iconst_1 (n := 5) rfl dX9_lowestOf_4 ?_
  refine zj_isub (n := 6) rfl dX9_lowestOf_5 ?_
  refine zj_callS1 (n := 9) (a' := 0) (b' := 0) rfl dX9_lowestOf_6 zm_X9_167 (by decide) (Nat.le_of_ble_eq_true rfl) (Nat.le_of_ble_eq_true rfl) (Nat.le_of_ble_eq_true rfl) (Nat.le_of_ble_eq_true rfl) (jJ_bitCount ?_)
  exact zj_ireturn dX9_lowestOf_9 rfl rfl h
theorem jX6_wayTo0 {r : Nat} {v : zV} {cn : Nat → Nat} {n : Nat} {p : Int32} {Q : Option Value → zM → Prop} {X : String → zM → Prop} {M : zM} (hi : zRi r) (hN : zNo M r v cn) (hn : n < v 6) (h : Q (some (.int (zfmod (nI (v (10 + 12 * n + 0)) - p)))) M) : zJ yX6_wayTo cX6_wayTo 3 (some .int) rX6_wayTo Q X rX6_wayTo.cells rX6_wayTo.slots 0 (zEnt 3 [.ref r, .int (nI n), .int p]) [] M := by
  show zJ yX6_wayTo cX6_wayTo 3 (some .int) rX6_wayTo Q X 0 0 0 [some (.ref r), some (.int (nI n)), some (.int p)] [] M
  refine zj_aload0 (n := 1) rfl dX6_wayTo_0 ?_
  refine zj_getr (n := 4) (q := r + 1) rfl dX6_wayTo_1 zf_X6_14 rfl hi.lt hi.ty rfl ?_
  refine zj_iload1 (n := 5) rfl dX6_wayTo_4 ?_
  refine zj_iconstN_0 (n := 6) rfl dX6_wayTo_5 ?_
  refine zj_callV2 (n := 9) (a' := 0) (b' := 0) rfl dX6_wayTo_6 zm_X6_58 (by decide) (hi.ltc (c := 1) (by decide)) (by rw [(hi.ty1 (c := 1) (by decide))]; rfl) (Nat.le_of_ble_eq_true rfl) (Nat.le_of_ble_eq_true rfl) (Nat.le_of_ble_eq_true rfl) (Nat.le_of_ble_eq_true rfl) (jT_get hN.1 (by omega) (by decide) (hN.c0 (by omega)) ?_)
  refine zj_iload2 (n := 10) rfl dX6_wayTo_9 ?_
  refine zj_isub (n := 11) rfl dX6_wayTo_10 ?_
  refine zj_sipushN (v := 10000) (n := 14) rfl dX6_wayTo_11 (by decide) ?_
  refine zj_callS2 (n := 17) (a' := 0) (b' := 0) rfl dX6_wayTo_14 zm_X6_62 (by decide) (Nat.le_of_ble_eq_true rfl) (Nat.le_of_ble_eq_true rfl) (Nat.le_of_ble_eq_true rfl) (Nat.le_of_ble_eq_true rfl) (jJ_floorMod ?_)
  exact zj_ireturn dX6_wayTo_17 rfl rfl h
theorem jX6_wayTo {r : Nat} {v : zV} {cn : Nat → Nat} {n p : Nat} {Q : Option Value → zM → Prop} {X : String → zM → Prop} {M : zM} (hi : zRi r) (hN : zNo M r v cn) (hn : n < v 6) (ha : v (10 + 12 * n + 0) ≤ 9999) (hp : p ≤ 10000) (h : Q (some (.int (nI (vway v n p)))) M) : zJ yX6_wayTo cX6_wayTo 3 (some .int) rX6_wayTo Q X rX6_wayTo.cells rX6_wayTo.slots 0 (zEnt 3 [.ref r, .int (nI n), .int (nI p)]) [] M := jX6_wayTo0 hi hN hn (by rw [zfmod_at (by omega) hp]; exact h)
def vnsk (v : zV) (g k : Nat) : Nat := zMask 16 (fun n => vhas v g k n)
theorem vhas_succ (v : zV) (g k n : Nat) : vhas v g (k + 1) n = (vhas v g k n || hol v g k == n) := rfl
theorem vnsk_succ {v : zV} {g k : Nat} (h : hol v g k < 16) : vnsk v g k ||| 2 ^ hol v g k = vnsk v g (k + 1) := by
  unfold vnsk
  rw [zMask_lor h]
  exact zMask_congr (fun i _ => by rw [vhas_succ]; congr 1; exact Bool.beq_comm)
theorem vnsk_zero (v : zV) (g : Nat) : vnsk v g 0 = 0 := zMask_zero
theorem vnsk_lt (v : zV) (g k : Nat) : vnsk v g k < 2 ^ 16 := zMask_lt _ _
theorem jX6_nodeSet {r gn g many : Nat} {v : zV} {mn : Nat → Nat} {Q : Option Value → zM → Prop} {X : String → zM → Prop} {M : zM} (hi : zRi r) (hG : zGr M r v gn mn) (hg : g < gn) (hm : mn g = many) (hsh : vsh v g ≤ 10) (hma : many ≤ vsh v g) (hho : ∀ s, s < many → hol v g s < 16) (h : Q (some (.int (nI (vnsk v g many)))) M) : zJ yX6_nodeSet cX6_nodeSet 6 (some .int) rX6_nodeSet Q X rX6_nodeSet.cells rX6_nodeSet.slots 0 (zEnt 6 [.ref r, .int (nI g)]) [] M := by
  subst hm
  have h5 := hG.1.2.2.2.2.1
  show zJ yX6_nodeSet cX6_nodeSet 6 (some .int) rX6_nodeSet Q X 0 0 0 [some (.ref r), some (.int (nI g)), none, none, none, none] [] M
  refine zj_iconstN_0 (n := 1) rfl dX6_nodeSet_0 ?_
  refine zj_istore2 (n := 2) rfl dX6_nodeSet_1 rfl (Nat.le_of_ble_eq_true rfl) ?_
  refine zj_aload0 (n := 3) rfl dX6_nodeSet_2 ?_
  refine zj_getr (n := 6) (q := r + 5) rfl dX6_nodeSet_3 zf_X6_23 rfl hi.lt hi.ty rfl ?_
  refine zj_iload1 (n := 7) rfl dX6_nodeSet_6 ?_
  refine zj_bipushN (v := 9) (n := 9) rfl dX6_nodeSet_7 (by decide) ?_
  refine zj_callV2 (n := 12) (a' := 0) (b' := 0) rfl dX6_nodeSet_9 zm_X6_58 (by decide) (hi.ltc (c := 5) (by decide)) (by rw [(hi.ty1 (c := 5) (by decide))]; rfl) (Nat.le_of_ble_eq_true rfl) (Nat.le_of_ble_eq_true rfl) (Nat.le_of_ble_eq_true rfl) (Nat.le_of_ble_eq_true rfl) (jT_get hG.1 (by omega) (by decide) (hG.n (by omega)) ?_)
  refine zj_istore3 (n := 13) rfl dX6_nodeSet_12 rfl (Nat.le_of_ble_eq_true rfl) ?_
  refine zj_iconstN_0 (n := 14) rfl dX6_nodeSet_13 ?_
  refine zj_istore4 (n := 16) rfl dX6_nodeSet_14 rfl (Nat.le_of_ble_eq_true rfl) ?_
  refine zFor_rule (P := fun s (_ : Unit) => ∀ x, x = vnsk v g (min s (mn g)) → zJ yX6_nodeSet cX6_nodeSet 6 (some .int) rX6_nodeSet Q X 0 0 16 [some (.ref r), some (.int (nI g)), some (.int (nI x)), some (.int (nI (vsh v g))), some (.int (nI s)), none] [] M) (n := vsh v g) (f := fun _ s => s) (s0 := ()) ?_ ?_ 0 (by rw [Nat.zero_min]; exact (vnsk_zero v g).symm)
  · intro s _ hs hk x hx
    refine zj_iload4 (n := 18) rfl dX6_nodeSet_16 ?_
    refine zj_iload3 (n := 19) rfl dX6_nodeSet_18 ?_
    refine zj_icmpN_ge (n := 22) (tgt := 56) rfl dX6_nodeSet_19 (by decide) (by omega) (by omega) (fun c19 => by omega) (fun c19 => ?_)
    refine zj_aload0 (n := 23) rfl dX6_nodeSet_22 ?_
    refine zj_getr (n := 26) (q := r + 5) rfl dX6_nodeSet_23 zf_X6_23 rfl hi.lt hi.ty rfl ?_
    refine zj_iload1 (n := 27) rfl dX6_nodeSet_26 ?_
    refine zj_bipushN (v := 10) (n := 29) rfl dX6_nodeSet_27 (by decide) ?_
    refine zj_iload4 (n := 31) rfl dX6_nodeSet_29 ?_
    refine zj_iaddN (n := 32) rfl dX6_nodeSet_31 ?_
    rcases Nat.lt_or_ge s (mn g) with hq | hq
    · refine zj_callV2 (n := 35) (a' := 0) (b' := 0) rfl dX6_nodeSet_32 zm_X6_58 (by decide) (hi.ltc (c := 5) (by decide)) (by rw [(hi.ty1 (c := 5) (by decide))]; rfl) (Nat.le_of_ble_eq_true rfl) (Nat.le_of_ble_eq_true rfl) (Nat.le_of_ble_eq_true rfl) (Nat.le_of_ble_eq_true rfl) (jT_get (e := hol v g s) hG.1 (by omega) (by omega) (hG.sh (by omega) hq) ?_)
      refine zj_istore5 (n := 37) rfl dX6_nodeSet_35 rfl (Nat.le_of_ble_eq_true rfl) ?_
      have hho_s := hho s hq
      have hho_s : hol v g s < 16 := hho_s
      refine zj_iload5 (n := 39) rfl dX6_nodeSet_37 ?_
      refine zj_iconst_m1 (n := 40) rfl dX6_nodeSet_39 ?_
      refine zj_icmp_eq (n := 43) (tgt := 50) rfl dX6_nodeSet_40 (by decide) (fun q => absurd q (nI_ne_m1 (by omega))) (fun _ => ?_)
      refine zj_iload2 (n := 44) rfl dX6_nodeSet_43 ?_
      refine zj_iconstN_1 (n := 45) rfl dX6_nodeSet_44 ?_
      refine zj_iload5 (n := 47) rfl dX6_nodeSet_45 ?_
      refine zj_ishlN1 (n := 48) rfl dX6_nodeSet_47 (by omega) ?_
      refine zj_ior (n := 49) rfl dX6_nodeSet_48 ?_
      refine zj_istore2 (n := 50) rfl dX6_nodeSet_49 rfl (Nat.le_of_ble_eq_true rfl) ?_
      refine zj_iincN4 (n := 53) rfl dX6_nodeSet_50 rfl (Nat.le_of_ble_eq_true rfl) ?_
      refine zj_goto (tgt := 16) dX6_nodeSet_53 (by decide) ?_
      refine zj_keep [true, true, true, true, true, false] ?_
      have hx2 : x = vnsk v g s := by rw [hx, show min s (mn g) = s by omega]
      have hl := vnsk_lt v g s
      have hp2 : 2 ^ hol v g s < 2 ^ 31 := Nat.pow_lt_pow_right (by decide) (by omega)
      rw [zorN (by omega) hp2, hx2, vnsk_succ hho_s]
      exact hk _ (by rw [show min (s + 1) (mn g) = s + 1 by omega])
    · refine zj_callV2 (n := 35) (a' := 0) (b' := 0) rfl dX6_nodeSet_32 zm_X6_58 (by decide) (hi.ltc (c := 5) (by decide)) (by rw [(hi.ty1 (c := 5) (by decide))]; rfl) (Nat.le_of_ble_eq_true rfl) (Nat.le_of_ble_eq_true rfl) (Nat.le_of_ble_eq_true rfl) (Nat.le_of_ble_eq_true rfl) (jT_getI hG.1 (by omega) (by omega) (hG.un (by omega) hq hs) ?_)
      refine zj_istore5 (n := 37) rfl dX6_nodeSet_35 rfl (Nat.le_of_ble_eq_true rfl) ?_
      -- 
      refine zj_iload5 (n := 39) rfl dX6_nodeSet_37 ?_
      refine zj_iconst_m1 (n := 40) rfl dX6_nodeSet_39 ?_
      refine zj_icmp_eq (n := 43) (tgt := 50) rfl dX6_nodeSet_40 (by decide) (fun _ => ?_) (fun h => absurd h (by decide))
      refine zj_iincN4 (n := 53) rfl dX6_nodeSet_50 rfl (Nat.le_of_ble_eq_true rfl) ?_
      refine zj_goto (tgt := 16) dX6_nodeSet_53 (by decide) ?_
      refine zj_keep [true, true, true, true, true, false] ?_
      exact hk x (by rw [hx, show min (s + 1) (mn g) = min s (mn g) by omega])
  · intro x hx
    refine zj_iload4 (n := 18) rfl dX6_nodeSet_16 ?_
    refine zj_iload3 (n := 19) rfl dX6_nodeSet_18 ?_
    refine zj_icmpN_ge (n := 22) (tgt := 56) rfl dX6_nodeSet_19 (by decide) (by omega) (by omega) (fun c19 => ?_) (fun c19 => by omega)
    refine zj_iload2 (n := 57) rfl dX6_nodeSet_56 ?_
    exact zj_ireturn dX6_nodeSet_57 rfl rfl (zQi h (by rw [hx, Nat.min_eq_right hma]))
