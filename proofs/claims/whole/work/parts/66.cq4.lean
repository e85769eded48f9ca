/-! THE CLASS'S QUESTIONS: the fewest failures; the history -/
theorem jX9_lowestBits {p : Nat → Bool} {m : Nat} {Q : Option Value → zM → Prop} {X : String → zM → Prop} {M : zM} (hm : m ≤ 11) (h : Q (some (.int (nI (lbL p m)))) M) : zJ yX9_lowestBits cX9_lowestBits 5 (some .int) rX9_lowestBits Q X rX9_lowestBits.cells rX9_lowestBits.slots 0 (zEnt 5 [.int (nI (zMask 16 p)), .int (nI m)]) [] M := by
  show zJ yX9_lowestBits cX9_lowestBits 5 (some .int) rX9_lowestBits Q X 0 0 0 [some (.int (nI (zMask 16 p))), some (.int (nI m)), none, none, none] [] M
  refine zj_iload0 (n := 1) rfl dX9_lowestBits_0 ?_
  refine zj_istore2 (n := 2) rfl dX9_lowestBits_1 rfl (Nat.le_of_ble_eq_true rfl) ?_
  refine zj_iconstN_0 (n := 3) rfl dX9_lowestBits_2 ?_
  refine zj_istore3 (n := 4) rfl dX9_lowestBits_3 rfl (Nat.le_of_ble_eq_true rfl) ?_
  refine zj_iconstN_0 (n := 5) rfl dX9_lowestBits_4 ?_
  refine zj_istore4 (n := 7) rfl dX9_lowestBits_5 rfl (Nat.le_of_ble_eq_true rfl) ?_
  refine zj_sub (l' := [some (.int (nI (zMask 16 p))), some (.int (nI m)), some (.int (nI (lbR p 0))), some (.int (nI (lbL p 0))), some (.int (nI 0))]) (by simp only [zLe, eq_self, and_true, true_and, Value.int.injEq, lb_0.1, lb_0.2]) ?_
  refine zFor_rule (P := fun j (_ : Unit) => zJ yX9_lowestBits cX9_lowestBits 5 (some .int) rX9_lowestBits Q X 0 0 7 [some (.int (nI (zMask 16 p))), some (.int (nI m)), some (.int (nI (lbR p j))), some (.int (nI (lbL p j))), some (.int (nI j))] [] M) (n := m) (f := fun _ s => s) (s0 := ()) ?_ ?_
  · intro j _ hj9 hk
    refine zj_iload4 (n := 9) rfl dX9_lowestBits_7 ?_
    refine zj_iload1 (n := 10) rfl dX9_lowestBits_9 ?_
    refine zj_icmpN_ge (n := 13) (tgt := 32) rfl dX9_lowestBits_10 (by decide) (by omega) (by omega) (fun c10 => by omega) (fun c10 => ?_)
    refine zj_iload3 (n := 14) rfl dX9_lowestBits_13 ?_
    refine zj_iload2 (n := 15) rfl dX9_lowestBits_14 ?_
    refine zj_iload2 (n := 16) rfl dX9_lowestBits_15 ?_
    refine zj_ineg (n := 17) rfl dX9_lowestBits_16 ?_
    refine zj_iand (n := 18) rfl dX9_lowestBits_17 ?_
    refine zj_ior (n := 19) rfl dX9_lowestBits_18 ?_
    refine zj_istore3 (n := 20) rfl dX9_lowestBits_19 rfl (Nat.le_of_ble_eq_true rfl) ?_
    refine zj_iload2 (n := 21) rfl dX9_lowestBits_20 ?_
    refine zj_iload2 (n := 22) rfl dX9_lowestBits_21 ?_
    refine zj_iconstN_1 (n := 23) rfl dX9_lowestBits_22 ?_
    refine zj_isub (n := 24) rfl dX9_lowestBits_23 ?_
    refine zj_iand (n := 25) rfl dX9_lowestBits_24 ?_
    refine zj_istore2 (n := 26) rfl dX9_lowestBits_25 rfl (Nat.le_of_ble_eq_true rfl) ?_
    refine zj_iincN4 (n := 29) rfl dX9_lowestBits_26 rfl (Nat.le_of_ble_eq_true rfl) ?_
    refine zj_goto (tgt := 7) dX9_lowestBits_29 (by decide) ?_
    rw [(lb_step p j).1, (lb_step p j).2]
    exact hk
  · skip
    refine zj_iload4 (n := 9) rfl dX9_lowestBits_7 ?_
    refine zj_iload1 (n := 10) rfl dX9_lowestBits_9 ?_
    refine zj_icmpN_ge (n := 13) (tgt := 32) rfl dX9_lowestBits_10 (by decide) (by omega) (by omega) (fun c10 => ?_) (fun c10 => by omega)
    refine zj_iload3 (n := 33) rfl dX9_lowestBits_32 ?_
    exact zj_ireturn dX9_lowestBits_33 rfl rfl h
theorem jX6_availableNodes {v : zV} {g : Nat} {r : Nat} {Q : Option Value → zM → Prop} {X : String → zM → Prop} {M : zM} (hR : zRg M r v) (hW : zWF v) (hg : g < v 8) (h : Q (some (.int (nI (zMask 16 (vlp v g))))) M) : zJ yX6_availableNodes cX6_availableNodes 4 (some .int) rX6_availableNodes Q X rX6_availableNodes.cells rX6_availableNodes.slots 0 (zEnt 4 [.ref r, .int (nI g)]) [] M := by
  have h6 := hW.nN
  have hsh := (hW.sh hg).2
  show zJ yX6_availableNodes cX6_availableNodes 4 (some .int) rX6_availableNodes Q X 0 0 0 [some (.ref r), some (.int (nI g)), none, none] [] M
  refine zj_aload0 (n := 1) rfl dX6_availableNodes_0 ?_
  refine zj_iload1 (n := 2) rfl dX6_availableNodes_1 ?_
  refine zj_callV1 (n := 5) (a' := 0) (b' := 0) rfl dX6_availableNodes_2 zm_X6_86 (by decide) hR.i.lt (by rw [hR.i.ty]; rfl) (Nat.le_of_ble_eq_true rfl) (Nat.le_of_ble_eq_true rfl) (Nat.le_of_ble_eq_true rfl) (Nat.le_of_ble_eq_true rfl) (jX6_nodeSet hR.i hR.g hg rfl hsh (Nat.le_refl _) (fun s hs => by have := hW.holds hg hs; omega) ?_)
  refine zj_istore2 (n := 6) rfl dX6_availableNodes_5 rfl (Nat.le_of_ble_eq_true rfl) ?_
  refine zj_iconstN_0 (n := 7) rfl dX6_availableNodes_6 ?_
  refine zj_istore3 (n := 8) rfl dX6_availableNodes_7 rfl (Nat.le_of_ble_eq_true rfl) ?_
  refine zFor_rule (P := fun k (_ : Unit) => ∀ m, m = zMask 16 (fun n => vhas v g (vsh v g) n && !(decide (n < k) && (v (10 + 12 * n + 4) == 1))) → zJ yX6_availableNodes cX6_availableNodes 4 (some .int) rX6_availableNodes Q X 0 0 8 [some (.ref r), some (.int (nI g)), some (.int (nI m)), some (.int (nI k))] [] M) (n := v 6) (f := fun _ s => s) (s0 := ()) ?_ ?_ _ (zMask_congr (fun n _ => by simp))
  · intro k _ hk9 hk m hm
    have hn4 : v (10 + 12 * k + 4) ≤ 2 := (hW.node hk9).2.2.2.2
    refine zj_iload3 (n := 9) rfl dX6_availableNodes_8 ?_
    refine zj_aload0 (n := 10) rfl dX6_availableNodes_9 ?_
    refine zj_getr (n := 13) (q := r + 1) rfl dX6_availableNodes_10 zf_X6_14 rfl hR.i.lt hR.i.ty rfl ?_
    refine zj_getiN (e := v 6) (n := 16) rfl dX6_availableNodes_13 zf_X6_55 rfl (hR.i.ltc (c := 1) (by decide)) (hR.i.ty1 (c := 1) (by decide)) hR.n.1.2.2.2.1 ?_
    refine zj_icmpN_ge (n := 19) (tgt := 46) rfl dX6_availableNodes_16 (by decide) (by omega) (by omega) (fun c16 => by omega) (fun c16 => ?_)
    refine zj_aload0 (n := 20) rfl dX6_availableNodes_19 ?_
    refine zj_getr (n := 23) (q := r + 1) rfl dX6_availableNodes_20 zf_X6_14 rfl hR.i.lt hR.i.ty rfl ?_
    refine zj_iload3 (n := 24) rfl dX6_availableNodes_23 ?_
    refine zj_iconstN_5 (n := 25) rfl dX6_availableNodes_24 ?_
    refine zj_callV2 (n := 28) (a' := 0) (b' := 0) rfl dX6_availableNodes_25 zm_X6_58 (by decide) (hR.i.ltc (c := 1) (by decide)) (by rw [(hR.i.ty1 (c := 1) (by decide))]; rfl) (Nat.le_of_ble_eq_true rfl) (Nat.le_of_ble_eq_true rfl) (Nat.le_of_ble_eq_true rfl) (Nat.le_of_ble_eq_true rfl) (jT_get hR.n.1 (by omega) (by decide) (hR.n.c5 (by omega)) ?_)
    refine zj_iconstN_1 (n := 29) rfl dX6_availableNodes_28 ?_
    refine zj_icmpN_ne (n := 32) (tgt := 40) rfl dX6_availableNodes_29 (by decide) (by omega) (by omega) (fun c29 => ?_) (fun c29 => ?_)
    · refine zj_iincN3 (n := 43) rfl dX6_availableNodes_40 rfl (Nat.le_of_ble_eq_true rfl) ?_
      refine zj_goto (tgt := 8) dX6_availableNodes_43 (by decide) ?_
      exact hk _ (hm.trans (zMask_congr (fun n hn => by
        by_cases q : n = k
        · subst q; rw [show (v (10 + 12 * n + 4) == 1) = false from beq_false_of_ne c29]; simp
        · by_cases c : n < k
          · rw [decide_eq_true c, decide_eq_true (show n < k + 1 by omega)]
          · rw [decide_eq_false c, decide_eq_false (show ¬ n < k + 1 by omega)])))
    · refine zj_iload2 (n := 33) rfl dX6_availableNodes_32 ?_
      refine zj_iconstN_1 (n := 34) rfl dX6_availableNodes_33 ?_
      refine zj_iload3 (n := 35) rfl dX6_availableNodes_34 ?_
      refine zj_ishlN1 (n := 36) rfl dX6_availableNodes_35 (by omega) ?_
      refine zj_iconst_m1 (n := 37) rfl dX6_availableNodes_36 ?_
      refine zj_ixor (n := 38) rfl dX6_availableNodes_37 ?_
      refine zj_iand (n := 39) rfl dX6_availableNodes_38 ?_
      refine zj_istore2 (n := 40) rfl dX6_availableNodes_39 rfl (Nat.le_of_ble_eq_true rfl) ?_
      refine zj_iincN3 (n := 43) rfl dX6_availableNodes_40 rfl (Nat.le_of_ble_eq_true rfl) ?_
      refine zj_goto (tgt := 8) dX6_availableNodes_43 (by decide) ?_
      rw [show nI m &&& (nI (2 ^ k) ^^^ -1) = nI (zMask 16 (fun n => vhas v g (vsh v g) n && !(decide (n < k + 1) && (v (10 + 12 * n + 4) == 1)))) from zdiffN (fun n => by
        rw [hm, zMask_bit, zMask_bit, Nat.testBit_two_pow, Bool.and_assoc]
        congr 1
        by_cases q : n = k
        · subst q; rw [c29]; simp
        · by_cases c : n < k
          · rw [decide_eq_true c, decide_eq_true (show n < k + 1 by omega)]; simp [show ¬ k = n by omega]
          · rw [decide_eq_false c, decide_eq_false (show ¬ n < k + 1 by omega)]; simp [show ¬ k = n by omega])]
      exact hk _ rfl
  · intro m hm
    refine zj_iload3 (n := 9) rfl dX6_availableNodes_8 ?_
    refine zj_aload0 (n := 10) rfl dX6_availableNodes_9 ?_
    refine zj_getr (n := 13) (q := r + 1) rfl dX6_availableNodes_10 zf_X6_14 rfl hR.i.lt hR.i.ty rfl ?_
    refine zj_getiN (e := v 6) (n := 16) rfl dX6_availableNodes_13 zf_X6_55 rfl (hR.i.ltc (c := 1) (by decide)) (hR.i.ty1 (c := 1) (by decide)) hR.n.1.2.2.2.1 ?_
    refine zj_icmpN_ge (n := 19) (tgt := 46) rfl dX6_availableNodes_16 (by decide) (by omega) (by omega) (fun c16 => ?_) (fun c16 => by omega)
    refine zj_iload2 (n := 47) rfl dX6_availableNodes_46 ?_
    exact zj_ireturn dX6_availableNodes_47 rfl rfl (zQi h (by rw [hm]; refine congrArg nI (zMask_congr (fun n hn => ?_)); unfold vlp; by_cases q : n < v 6; rw [decide_eq_true q, Bool.true_and]; rw [vhas_out hW hg (by omega) _ (Nat.le_refl _)]; rfl))
theorem zdifN {a b c : Nat} (ha : a < 2 ^ 30) (hb : b < 2 ^ 30) (hc : c < 2 ^ 30) : nI a - nI b = nI c ↔ a = b + c := by
  constructor
  · intro h
    have e : nI a = nI (c + b) := by rw [← nI_add, ← h, Int32.sub_add_cancel]
    have := congrArg Int32.toInt e
    rw [nI_toInt (by omega), nI_toInt (by omega)] at this
    omega
  · intro h
    rw [pk_sub (by omega)]
    exact congrArg nI (by omega)
theorem vfew_pos {v : zV} : ∀ k m, vfew v k = some m → 1 ≤ m := by
  intro k
  induction k with
  | zero => intro m h; cases h
  | succ k ih =>
    intro m h
    rw [vfew_succ] at h
    split at h
    · cases h; unfold vfl; omega
    · exact ih m h
theorem jX9_fewestFailuresSet {v : zV} {Q : Option Value → zM → Prop} {X : String → zM → Prop} {M : zM} (hC : zCl M v) (hW : zWF v) (h : (a_fewestSet v).1 = 0 → ∀ M', zQn M M' → Q (some (.int (a_fewestSet v).2)) M') : zJ yX9_fewestFailuresSet cX9_fewestFailuresSet 5 (some .int) rX9_fewestFailuresSet Q X rX9_fewestFailuresSet.cells rX9_fewestFailuresSet.slots 0 (zEnt 5 [.ref 99]) [] M := by
  have hR := hC.1
  have h6 := hW.nN
  have h7 := hW.tN
  have h8 := hW.gN
  have h9 := hW.hN
  show zJ yX9_fewestFailuresSet cX9_fewestFailuresSet 5 (some .int) rX9_fewestFailuresSet Q X 0 0 0 [some (.ref 99), none, none, none, none] [] M
  refine zj_aload0 (n := 1) rfl dX9_fewestFailuresSet_0 ?_
  refine zj_callV0 (n := 4) (a' := 0) (b' := 0) rfl dX9_fewestFailuresSet_1 zm_X9_267 (by decide) (by decide) rfl (Nat.le_of_ble_eq_true rfl) (Nat.le_of_ble_eq_true rfl) (Nat.le_of_ble_eq_true rfl) (Nat.le_of_ble_eq_true rfl) (jX9_fewestFailures hC hW (fun _ M1 hQ1 => ?_))
  have hC1 := hQ1.cl hC
  have hR1 := hC1.1
  rw [show (a_fewest v).2 = zo (vfew v (v 8)) from rfl]
  refine zj_istore1 (n := 5) rfl dX9_fewestFailuresSet_4 rfl (Nat.le_of_ble_eq_true rfl) ?_
  refine zj_iconst_m1 (n := 6) rfl dX9_fewestFailuresSet_5 ?_
  refine zj_istore2 (n := 7) rfl dX9_fewestFailuresSet_6 rfl (Nat.le_of_ble_eq_true rfl) ?_
  refine zj_iconstN_0 (n := 8) rfl dX9_fewestFailuresSet_7 ?_
  refine zj_istore3 (n := 9) rfl dX9_fewestFailuresSet_8 rfl (Nat.le_of_ble_eq_true rfl) ?_
  refine zj_sub (l' := [some (.ref 99), some (.int (zo (vfew v (v 8)))), some (.int (zo (vfs v 0))), some (.int (nI 0)), none]) (by simp only [zLe, eq_self, and_true, true_and, Value.int.injEq]; exact rfl) ?_
  refine zFor_rule (P := fun g (_ : Unit) => zJ yX9_fewestFailuresSet cX9_fewestFailuresSet 5 (some .int) rX9_fewestFailuresSet Q X 0 0 9 [some (.ref 99), some (.int (zo (vfew v (v 8)))), some (.int (zo (vfs v g))), some (.int (nI g)), none] [] M1) (n := v 8) (f := fun _ s => s) (s0 := ()) ?_ ?_
  · intro g _ hg hk
    refine zj_iload3 (n := 10) rfl dX9_fewestFailuresSet_9 ?_
    refine zj_aload0 (n := 11) rfl dX9_fewestFailuresSet_10 ?_
    refine zj_getr (n := 14) (q := 0) rfl dX9_fewestFailuresSet_11 zf_X9_33 rfl (by decide) (by decide) rfl ?_
    refine zj_getr (n := 17) (q := 5) rfl dX9_fewestFailuresSet_14 zf_X9_91 rfl (by decide) (by decide) rfl ?_
    refine zj_getiN (e := v 8) (n := 20) rfl dX9_fewestFailuresSet_17 zf_X9_95 rfl (by decide) (by decide) hR1.g.1.2.2.2.1 ?_
    refine zj_icmpN_ge (n := 23) (tgt := 74) rfl dX9_fewestFailuresSet_20 (by decide) (by omega) (by omega) (fun c20 => by omega) (fun c20 => ?_)
    refine zj_iload1 (n := 24) rfl dX9_fewestFailuresSet_23 ?_
    refine zj_iconst_m1 (n := 25) rfl dX9_fewestFailuresSet_24 ?_
    refine zj_icmpO_eq (n := 28) (tgt := 68) rfl dX9_fewestFailuresSet_25 (by decide) (fun m hm => by have := vfew_lt hW (v 8) (Nat.le_refl _) m hm; omega) (fun c25 => ?_) (fun m25 c25 => ?_)
    · refine zj_iincN3 (n := 71) rfl dX9_fewestFailuresSet_68 rfl (Nat.le_of_ble_eq_true rfl) ?_
      refine zj_goto (tgt := 9) dX9_fewestFailuresSet_71 (by decide) ?_
      rw [vfs_succ, show vfsS v g (vfs v g) = vfs v g by unfold vfsS; rw [c25]; simp] at hk
      exact hk
    · rw [c25]
      have hm25 := vfew_lt hW (v 8) (Nat.le_refl _) m25 c25
      have hm1 := vfew_pos _ _ c25
      have hvn := vnav_le (v := v) (d := 0) (g := g)
      have hsh := (hW.sh hg).2
      have hg2 : v (268 + 23 * g + 2) ≤ 6 := (hW.grp hg).2.2.2.1
      refine zj_aload0 (n := 29) rfl dX9_fewestFailuresSet_28 ?_
      refine zj_getr (n := 32) (q := 0) rfl dX9_fewestFailuresSet_29 zf_X9_33 rfl (by decide) (by decide) rfl ?_
      refine zj_iload3 (n := 33) rfl dX9_fewestFailuresSet_32 ?_
      refine zj_callV1 (n := 36) (a' := 0) (b' := 0) rfl dX9_fewestFailuresSet_33 zm_X9_264 (by decide) (by decide) rfl (Nat.le_of_ble_eq_true rfl) (Nat.le_of_ble_eq_true rfl) (Nat.le_of_ble_eq_true rfl) (Nat.le_of_ble_eq_true rfl) (jX6_failuresToLose hR1 hW hg ?_)
      refine zj_iload1 (n := 37) rfl dX9_fewestFailuresSet_36 ?_
      -- 
      refine zj_icmp_ne (n := 40) (tgt := 68) rfl dX9_fewestFailuresSet_37 (by decide) (fun c37 => ?_) (fun c37 => ?_)
      · refine zj_iincN3 (n := 71) rfl dX9_fewestFailuresSet_68 rfl (Nat.le_of_ble_eq_true rfl) ?_
        refine zj_goto (tgt := 9) dX9_fewestFailuresSet_71 (by decide) ?_
        rw [vfs_succ, show vfsS v g (vfs v g) = vfs v g by 
          unfold vfsS
          rw [c25, if_neg (fun q => by
            simp only [Bool.and_eq_true, decide_eq_true_eq, Option.some.injEq, Bool.not_eq_true'] at q
            have q1 : ¬ vnav v 0 g < v (268 + 23 * g + 2) := of_decide_eq_false q.1
            have q2 := q.2
            unfold vfl at q2
            exact c37 ((zdifN (by omega) (by omega) (by omega)).mpr (by omega)))]] at hk
        rw [c25] at hk
        exact hk
      · have e37 := (zdifN (by omega) (by omega) (by omega)).mp c37
        have hl : vlost v 0 g = false := decide_eq_false (show ¬ vnav v 0 g < v (268 + 23 * g + 2) by omega)
        have e9 : vfl v g = m25 := by unfold vfl; omega
        have hlb : lbL (vlp v g) m25 < 2 ^ 16 := zMask_lt _ _
        refine zj_aload0 (n := 41) rfl dX9_fewestFailuresSet_40 ?_
        refine zj_getr (n := 44) (q := 0) rfl dX9_fewestFailuresSet_41 zf_X9_33 rfl (by decide) (by decide) rfl ?_
        refine zj_iload3 (n := 45) rfl dX9_fewestFailuresSet_44 ?_
        refine zj_callV1 (n := 48) (a' := 0) (b' := 0) rfl dX9_fewestFailuresSet_45 zm_X9_270 (by decide) (by decide) rfl (Nat.le_of_ble_eq_true rfl) (Nat.le_of_ble_eq_true rfl) (Nat.le_of_ble_eq_true rfl) (Nat.le_of_ble_eq_true rfl) (jX6_availableNodes hR1 hW hg ?_)
        refine zj_iload1 (n := 49) rfl dX9_fewestFailuresSet_48 ?_
        refine zj_callS2 (n := 52) (a' := 0) (b' := 0) rfl dX9_fewestFailuresSet_49 zm_X9_273 (by decide) (Nat.le_of_ble_eq_true rfl) (Nat.le_of_ble_eq_true rfl) (Nat.le_of_ble_eq_true rfl) (Nat.le_of_ble_eq_true rfl) (jX9_lowestBits (by omega) ?_)
        refine zj_istore4 (n := 54) rfl dX9_fewestFailuresSet_52 rfl (Nat.le_of_ble_eq_true rfl) ?_
        refine zj_iload2 (n := 55) rfl dX9_fewestFailuresSet_54 ?_
        refine zj_iconst_m1 (n := 56) rfl dX9_fewestFailuresSet_55 ?_
        refine zj_icmpO_eq (n := 59) (tgt := 65) rfl dX9_fewestFailuresSet_56 (by decide) (fun m hm => by have := vfs_lt hW g m hm; omega) (fun c56 => ?_) (fun m56 c56 => ?_)
        · refine zj_iload4 (n := 67) rfl dX9_fewestFailuresSet_65 ?_
          refine zj_istore2 (n := 68) rfl dX9_fewestFailuresSet_67 rfl (Nat.le_of_ble_eq_true rfl) ?_
          refine zj_iincN3 (n := 71) rfl dX9_fewestFailuresSet_68 rfl (Nat.le_of_ble_eq_true rfl) ?_
          refine zj_goto (tgt := 9) dX9_fewestFailuresSet_71 (by decide) ?_
          refine zj_keep [true, true, true, true, false] ?_
          rw [vfs_succ, show vfsS v g (vfs v g) = some (lbL (vlp v g) m25) by unfold vfsS; rw [c25, hl, e9, if_pos (by simp), c56, if_pos (by rfl), vlw_lb hW hg]] at hk
          rw [c25] at hk
          exact hk
        · rw [c56]
          have hm56 := vfs_lt hW g m56 c56
          refine zj_iload4 (n := 61) rfl dX9_fewestFailuresSet_59 ?_
          refine zj_iload2 (n := 62) rfl dX9_fewestFailuresSet_61 ?_
          refine zj_icmpN_ge (n := 65) (tgt := 68) rfl dX9_fewestFailuresSet_62 (by decide) (by omega) (by omega) (fun c62 => ?_) (fun c62 => ?_)
          · refine zj_iincN3 (n := 71) rfl dX9_fewestFailuresSet_68 rfl (Nat.le_of_ble_eq_true rfl) ?_
            refine zj_goto (tgt := 9) dX9_fewestFailuresSet_71 (by decide) ?_
            refine zj_keep [true, true, true, true, false] ?_
            rw [vfs_succ, show vfsS v g (vfs v g) = vfs v g by unfold vfsS; rw [c25, hl, e9, if_pos (by simp), c56, vlw_lb hW hg, if_neg (fun q => by simp only [Option.isNone_some, Bool.false_or, decide_eq_true_eq, Option.getD_some] at q; omega)]] at hk
            rw [c25, c56] at hk
            exact hk
          · refine zj_iload4 (n := 67) rfl dX9_fewestFailuresSet_65 ?_
            refine zj_istore2 (n := 68) rfl dX9_fewestFailuresSet_67 rfl (Nat.le_of_ble_eq_true rfl) ?_
            refine zj_iincN3 (n := 71) rfl dX9_fewestFailuresSet_68 rfl (Nat.le_of_ble_eq_true rfl) ?_
            refine zj_goto (tgt := 9) dX9_fewestFailuresSet_71 (by decide) ?_
            refine zj_keep [true, true, true, true, false] ?_
            rw [vfs_succ, show vfsS v g (vfs v g) = some (lbL (vlp v g) m25) by unfold vfsS; rw [c25, hl, e9, if_pos (by simp), c56, vlw_lb hW hg, if_pos (by simp only [Option.isNone_some, Bool.false_or, decide_eq_true_eq, Option.getD_some]; omega)]] at hk
            rw [c25] at hk
            exact hk
  · skip
    refine zj_iload3 (n := 10) rfl dX9_fewestFailuresSet_9 ?_
    refine zj_aload0 (n := 11) rfl dX9_fewestFailuresSet_10 ?_
    refine zj_getr (n := 14) (q := 0) rfl dX9_fewestFailuresSet_11 zf_X9_33 rfl (by decide) (by decide) rfl ?_
    refine zj_getr (n := 17) (q := 5) rfl dX9_fewestFailuresSet_14 zf_X9_91 rfl (by decide) (by decide) rfl ?_
    refine zj_getiN (e := v 8) (n := 20) rfl dX9_fewestFailuresSet_17 zf_X9_95 rfl (by decide) (by decide) hR1.g.1.2.2.2.1 ?_
    refine zj_icmpN_ge (n := 23) (tgt := 74) rfl dX9_fewestFailuresSet_20 (by decide) (by omega) (by omega) (fun c20 => ?_) (fun c20 => by omega)
    refine zj_iload2 (n := 75) rfl dX9_fewestFailuresSet_74 ?_
    exact zj_ireturn dX9_fewestFailuresSet_75 rfl rfl (h rfl _ hQ1)
theorem jX9_undoCount {v : zV}  {un : Nat} {uv : Nat → zV} {Q : Option Value → zM → Prop} {X : String → zM → Prop} {M : zM} (hC : zCl M v) (hW : zWF v) (hU : zUd M un uv) (h : ∀ M', zQn M M' → Q (some (.int (nI un))) M') : zJ yX9_undoCount cX9_undoCount 1 (some .int) rX9_undoCount Q X rX9_undoCount.cells rX9_undoCount.slots 0 (zEnt 1 [.ref 99]) [] M := by
  have hR := hC.1
  have h6 := hW.nN
  have h7 := hW.tN
  have h8 := hW.gN
  have h9 := hW.hN
  have hun : M.1 116 2 = nI un := by obtain ⟨_, _, o, _, _, q, _⟩ := hU; exact q
  show zJ yX9_undoCount cX9_undoCount 1 (some .int) rX9_undoCount Q X 0 0 0 [some (.ref 99)] [] M
  refine zj_aload0 (n := 1) rfl dX9_undoCount_0 ?_
  refine zj_getr (n := 4) (q := 116) rfl dX9_undoCount_1 zf_X9_54 rfl (by decide) (by decide) rfl ?_
  refine zj_getiN (e := un) (n := 7) rfl dX9_undoCount_4 zf_X9_319 rfl (by decide) (by decide) hun ?_
  exact zj_ireturn dX9_undoCount_7 rfl rfl (h _ hC.rf)
