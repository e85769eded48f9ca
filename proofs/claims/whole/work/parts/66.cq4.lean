/-! THE CLASS'S QUESTIONS: the fewest failures; the history -/
theorem jX9_lowestBits {p : Nat → Bool} {m : Nat} {Q : Option Value → zM → Prop} {X : String → zM → Prop} {M : zM} (hm : m ≤ 11) (h : Q (some (.int (nI (lbL p m)))) M) : zJ yX9_lowestBits cX9_lowestBits 5 (some .int) rX9_lowestBits Q X rX9_lowestBits.cells rX9_lowestBits.slots 0 (zEnt 5 [.int (nI (zMask 16 p)), .int (nI m)]) [] M := by
  show zJ yX9_lowestBits cX9_lowestBits 5 (some .int) rX9_lowestBits Q X 0 0 0 [some (.int (nI (zMask 16 p))), some (.int (nI m)), none, none, none] [] M
  refine zj_iload0 (n := 1) rfl dX9_lowestBits_0 ?_
  refine zj_istore2 (n := 2) rfl dX9_lowestBits_1 rfl (Nat.le_of_ble_eq_true rfl) ?_
  refine zj_iconstN_0 (n := 3) rfl dX9_lowestBits_2 ?_
  refine zj_istore3 (n := 4) rfl dX9_lowestBits_3 rfl (Nat.le_of_ble_eq_true rfl) ?_
  refine zj_iconstN_0 (n := 5) rfl dX9_lowestBits_4 ?_
  refine zj_istore4 (n := 7) rfl dX9_lowestBits_5 rfl (Nat.le_of_ble_eq_true rfl) ?_
  refine zj_sub (l' := [some (.int (nI (zMask 16 p))), some (.int (nI m)), some (.int (nI (lbR p 0))), some (.int (nI (lbL p 0))), some (.int (nI 0))]) (by simp only [zLe, eq_self, and_true, true_and, Value.int.injEq, lb_0.1, lb_0.2]) ?_
  refine zFor_rule (P := fun j (_ : Unit) => zJ yX9_lowestBits cX9_lowestBits 5 (some .int) rX9_lowestBits Q X 0 0 7 [some (.int (nI (zMask 16 p))), some (.int (nI m)), some (.int (nI (lbR p j))), some (.int (nI (lbL p j))), some (.int (nI j))] [] M) (n := m) (f := fun _ s => s) (s0 := ()) ?_ ?_
  · intro j _ hj9 hk
    refine zj_iload4 (n := 9) rfl dX9_lowestBits_7 ?_
    refine zj_iload1 (n := 10) rfl dX9_lowestBits_9 ?_
    refine zj_icmpN_ge (n := 13) (tgt := 32) rfl dX9_lowestBits_10 (by decide) (by omega) (by omega) (fun c10 => by omega) (fun c10 => ?_)
    refine zj_iload3 (n := 14) rfl dX9_lowestBits_13 ?_
    refine zj_iload2 (n := 15) rfl dX9_lowestBits_14 ?_
    refine zj_iload2 (n := 16) rfl dX9_lowestBits_15 ?_
    refine zj_ineg (n := 17) rfl dX9_lowestBits_16 ?_
    refine zj_iand (n := 18) rfl dX9_lowestBits_17 ?_
    refine zj_ior (n := 19) rfl dX9_lowestBits_18 ?_
    refine zj_istore3 (n := 20) rfl dX9_lowestBits_19 rfl (Nat.le_of_ble_eq_true rfl) ?_
    refine zj_iload2 (n := 21) rfl dX9_lowestBits_20 ?_
    refine zj_iload2 (n := 22) rfl dX9_lowestBits_21 ?_
    refine zj_iconstN_1 (n := 23) rfl dX9_lowestBits_22 ?_
    refine zj_isub (n := 24) rfl dX9_lowestBits_23 ?_
    refine zj_iand (n := 25) rfl dX9_lowestBits_24 ?_
    refine zj_istore2 (n := 26) rfl dX9_lowestBits_25 rfl (Nat.le_of_ble_eq_true rfl) ?_
    refine zj_iincN4 (n := 29) rfl dX9_lowestBits_26 rfl (Nat.le_of_ble_eq_true rfl) ?_
    refine zj_goto (tgt := 7) dX9_lowestBits_29 (by decide) ?_
    rw [(lb_step p j).1, (lb_step p j).2]
    exact hk
  · skip
    refine zj_iload4 (n := 9) rfl dX9_lowestBits_7 ?_
    refine zj_iload1 (n := 10) rfl dX9_lowestBits_9 ?_
    refine zj_icmpN_ge (n := 13) (tgt := 32) rfl dX9_lowestBits_10 (by decide) (by omega) (by omega) (fun c10 => ?_) (fun c10 => by omega)
    refine zj_iload3 (n := 33) rfl dX9_lowestBits_32 ?_
    exact zj_ireturn dX9_lowestBits_33 rfl rfl h
theorem jX6_availableNodes {v : zV} {g : Nat} {r : Nat} {Q : Option Value → zM → Prop} {X : String → zM → Prop} {M : zM} (hR : zRg M r v) (hW : zWF v) (hg : g < v 8) (h : Q (some (.int (nI (zMask 16 (vlp v g))))) M) : zJ yX6_availableNodes cX6_availableNodes 4 (some .int) rX6_availableNodes Q X rX6_availableNodes.cells rX6_availableNodes.slots 0 (zEnt 4 [.ref r, .int (nI g)]) [] M := by
  have h6 := hW.nN
  have hsh := (hW.sh hg).2
  show zJ yX6_availableNodes cX6_availableNodes 4 (some .int) rX6_availableNodes Q X 0 0 0 [some (.ref r), some (.int (nI g)), none, none] [] M
  refine zj_aload0 (n := 1) rfl dX6_availableNodes_0 ?_
  refine zj_iload1 (n := 2) rfl dX6_availableNodes_1 ?_
  refine zj_callV1 (n := 5) (a' := 0) (b' := 0) rfl dX6_availableNodes_2 zm_X6_86 (by decide) hR.i.lt (by rw [hR.i.ty]; rfl) (Nat.le_of_ble_eq_true rfl) (Nat.le_of_ble_eq_true rfl) (Nat.le_of_ble_eq_true rfl) (Nat.le_of_ble_eq_true rfl) (jX6_nodeSet hR.i hR.g hg rfl hsh (Nat.le_refl _) (fun s hs => by have := hW.holds hg hs; omega) ?_)
  refine zj_istore2 (n := 6) rfl dX6_availableNodes_5 rfl (Nat.le_of_ble_eq_true rfl) ?_
  refine zj_iconstN_0 (n := 7) rfl dX6_availableNodes_6 ?_
  refine zj_istore3 (n := 8) rfl dX6_availableNodes_7 rfl (Nat.le_of_ble_eq_true rfl) ?_
  refine zFor_rule (P := fun k (_ : Unit) => ∀ m, m = zMask 16 (fun n => vhas v g (vsh v g) n && !(decide (n < k) && (v (10 + 12 * n + 4) == 1))) → zJ yX6_availableNodes cX6_availableNodes 4 (some .int) rX6_availableNodes Q X 0 0 8 [some (.ref r), some (.int (nI g)), some (.int (nI m)), some (.int (nI k))] [] M) (n := v 6) (f := fun _ s => s) (s0 := ()) ?_ ?_ _ (zMask_congr (fun n _ => by simp))
  · intro k _ hk9 hk m hm
    have hn4 : v (10 + 12 * k + 4) ≤ 2 := (hW.node hk9).2.2.2.2
    refine zj_iload3 (n := 9) rfl dX6_availableNodes_8 ?_
    refine zj_aload0 (n := 10) rfl dX6_availableNodes_9 ?_
    refine zj_getr (n := 13) (q := r + 1) rfl dX6_availableNodes_10 zf_X6_14 rfl hR.i.lt hR.i.ty rfl ?_
    refine zj_getiN (e := v 6) (n := 16) rfl dX6_availableNodes_13 zf_X6_55 rfl (hR.i.ltc (c := 1) (by decide)) (hR.i.ty1 (c := 1) (by decide)) hR.n.1.2.2.2.1 ?_
    refine zj_icmpN_ge (n := 19) (tgt := 46) rfl dX6_availableNodes_16 (by decide) (by omega) (by omega) (fun c16 => by omega) (fun c16 => ?_)
    refine zj_aload0 (n := 20) rfl dX6_availableNodes_19 ?_
    refine zj_getr (n := 23) (q := r + 1) rfl dX6_availableNodes_20 zf_X6_14 rfl hR.i.lt hR.i.ty rfl ?_
    refine zj_iload3 (n := 24) rfl dX6_availableNodes_23 ?_
    refine zj_iconstN_5 (n := 25) rfl dX6_availableNodes_24 ?_
    refine zj_callV2 (n := 28) (a' := 0) (b' := 0) rfl dX6_availableNodes_25 zm_X6_58 (by decide) (hR.i.ltc (c := 1) (by decide)) (by rw [(hR.i.ty1 (c := 1) (by decide))]; rfl) (Nat.le_of_ble_eq_true rfl) (Nat.le_of_ble_eq_true rfl) (Nat.le_of_ble_eq_true rfl) (Nat.le_of_ble_eq_true rfl) (jT_get hR.n.1 (by omega) (by decide) (hR.n.c5 (by omega)) ?_)
    refine zj_iconstN_1 (n := 29) rfl dX6_availableNodes_28 ?_
    refine zj_icmpN_ne (n := 32) (tgt := 40) rfl dX6_availableNodes_29 (by decide) (by omega) (by omega) (fun c29 => ?_) (fun c29 => ?_)
    · refine zj_iincN3 (n := 43) rfl dX6_availableNodes_40 rfl (Nat.le_of_ble_eq_true rfl) ?_
      refine zj_goto (tgt := 8) dX6_availableNodes_43 (by decide) ?_
      exact hk _ (hm.trans (zMask_congr (fun n hn => by
        by_cases q : n = k
        · subst q; rw [show (v (10 + 12 * n + 4) == 1) = false from beq_false_of_ne c29]; simp
        · by_cases c : n < k
          · rw [decide_eq_true c, decide_eq_true (show n < k + 1 by omega)]
          · rw [decide_eq_false c, decide_eq_false (show ¬ n < k + 1 by omega)])))
    · refine zj_iload2 (n := 33) rfl dX6_availableNodes_32 ?_
      refine zj_iconstN_1 (n := 34) rfl dX6_availableNodes_33 ?_
      refine zj_iload3 (n := 35) rfl dX6_availableNodes_34 ?_
      refine zj_ishlN1 (n := 36) rfl dX6_availableNodes_35 (by omega) ?_
      refine zj_iconst_m1 (n := 37) rfl dX6_availableNodes_36 ?_
      refine zj_ixor (n := 38) rfl dX6_availableNodes_37 ?_
      refine zj_iand (n := 39) rfl dX6_availableNodes_38 ?_
      refine zj_istore2 (n := 40) rfl dX6_availableNodes_39 rfl (Nat.le_of_ble_eq_true rfl) ?_
      refine zj_iincN3 (n := 43) rfl dX6_availableNodes_40 rfl (Nat.le_of_ble_eq_true rfl) ?_
      refine zj_goto (tgt := 8) dX6_availableNodes_43 (by decide) ?_
      rw [show nI m &&& (nI (2 ^ k) ^^^ -1) = nI (zMask 16 (fun n => vhas v g (vsh v g) n && !(decide (n < k + 1) && (v (10 + 12 * n + 4) == 1)))) from zdiffN (fun n => by
        rw [hm, zMask_bit, zMask_bit, Nat.testBit_two_pow, Bool.and_assoc]
        congr 1
        by_cases q : n = k
        · subst q; rw [c29]; simp
        · by_cases c : n < k
          · rw [decide_eq_true c, decide_eq_true (show n < k + 1 by omega)]; simp [show ¬ k = n by omega]
          · rw [decide_eq_false c, decide_eq_false (show ¬ n < k + 1 by omega)]; simp [show ¬ k = n by omega])]
      exact hk _ rfl
  · intro m hm
    refine zj_iload3 (n := 9) rfl dX6_availableNodes_8 ?_
    refine zj_aload0 (n := 10) rfl dX6_availableNodes_9 ?_
    refine zj_getr (n := 13) (q := r + 1) rfl dX6_availableNodes_10 zf_X6_14 rfl hR.i.lt hR.i.ty rfl ?_
    refine zj_getiN (e := v 6) (n := 16) rfl dX6_availableNodes_13 zf_X6_55 rfl (hR.i.ltc (c := 1) (by decide)) (hR.i.ty1 (c := 1) (by decide)) hR.n.1.2.2.2.1 ?_
    refine zj_icmpN_ge (n := 19) (tgt := 46) rfl dX6_availableNodes_16 (by decide) (by omega) (by omega) (fun c16 => ?_) (fun c16 => by omega)
    refine zj_iload2 (n := 47) rfl dX6_availableNodes_46 ?_
    exact zj_ireturn dX6_availableNodes_47 rfl rfl (zQi h (by rw [hm]; refine congrArg nI (zMask_congr (fun n hn => ?_)); unfold vlp; by_cases q : n < v 6; rw [decide_eq_true q, Bool.true_and]; rw [vhas_out hW hg (by omega) _ (Nat.le_refl _)]; rfl))
