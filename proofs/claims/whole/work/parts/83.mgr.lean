/-! THE MODEL: a group -/
def zHg (M M' : zM) : Prop := (∀ a, a ≠ 120 → M'.1 a = M.1 a) ∧ M'.2 = M.2
theorem zHg.rf {M : zM} : zHg M M := ⟨fun _ _ => rfl, rfl⟩
theorem zHg.hf {M M1 M2 : zM} (h : zHf M M1) (h2 : zHg M1 M2) : zHf M M2 := h.tr ⟨fun a _ h3 => h2.1 a h3, h2.2, fun j _ => by rw [h2.1 118 (by decide)]⟩
theorem zHg.pm {M M1 : zM} {n : Nat} {B : Nat → Nat} {s : zS} (h : zHg M M1) (hP : zPm M n B s) : zPm M1 n B s := hP.cg (h.1 118 (by decide)) (h.1 129 (by decide))
theorem zHg.put {M M1 : zM} {j : Nat} {x : Int32} (h : zHg M M1) : zHg M (zU M1.1 120 j x, M1.2) := ⟨fun a ha => (zU_off ha).trans (h.1 a ha), h.2⟩
theorem jX10_isPlaced {g : Nat} {v : zV} {Q : Option Value → zM → Prop} {X : String → zM → Prop} {M : zM} (hA : zRA M 120 v) (hq : zPq v g) (h : ∀ M' u (b : Bool), zHg M M' → zRA M' 120 u → (b = true → ∃ p, plS v g (vsh v g) = some (u, p)) → b = (plS v g (vsh v g)).isSome → (∀ j, ¬ (268 + 23 * g + 7 ≤ j ∧ j < 268 + 23 * g + 17) → u j = v j) → Q (some (.int (zb b))) M') : zJ yX10_isPlaced cX10_isPlaced 5 (some .boolean) rX10_isPlaced Q X rX10_isPlaced.cells rX10_isPlaced.slots 0 (zEnt 5 [.ref 118, .int (nI g)]) [] M := by
  obtain ⟨hW, h8, hg, hsh, hkey⟩ := id hq
  have h6 := hW.nN
  have h7 := hW.tN
  show zJ yX10_isPlaced cX10_isPlaced 5 (some .boolean) rX10_isPlaced Q X 0 0 0 [some (.ref 118), some (.int (nI g)), none, none, none] [] M
  refine zj_aload0 (n := 1) rfl dX10_isPlaced_0 ?_
  refine zj_iload1 (n := 2) rfl dX10_isPlaced_1 ?_
  refine zj_iconstN_1 (n := 3) rfl dX10_isPlaced_2 ?_
  refine zj_callV2 (n := 6) (a' := 0) (b' := 0) rfl dX10_isPlaced_3 zm_X10_66 (by decide) (by decide) rfl (Nat.le_of_ble_eq_true rfl) (Nat.le_of_ble_eq_true rfl) (Nat.le_of_ble_eq_true rfl) (Nat.le_of_ble_eq_true rfl) (jX10_groupValue (c := 1) hA (by omega) ?_)
  refine zj_istore2 (n := 7) rfl dX10_isPlaced_6 rfl (Nat.le_of_ble_eq_true rfl) ?_
  skip
  refine zj_iconstN_0 (n := 8) rfl dX10_isPlaced_7 ?_
  refine zj_istore3 (n := 9) rfl dX10_isPlaced_8 rfl (Nat.le_of_ble_eq_true rfl) ?_
  refine zFind_rule (P := fun k => ∀ M1 u p, zHg M M1 → zRA M1 120 u → plS v g k = some (u, p) → zJ yX10_isPlaced cX10_isPlaced 5 (some .boolean) rX10_isPlaced Q X 0 0 9 [some (.ref 118), some (.int (nI g)), some (.int (nI p)), some (.int (nI k)), none] [] M1) (n := vsh v g) (p := fun k => (plS v g (k + 1)).isNone) ?_ ?_ M v (v (268 + 23 * g + 1)) zHg.rf hA rfl
  · intro k hk hf hkk M1 u p hF1 hA1 hpl
    have hi1 := plS_inv hq k u p hpl
    have hWu := hi1.wf hq (by omega)
    have e6 : u 6 = v 6 := hi1.1 6 (by omega)
    have hp4 := hi1.2.2.2
    refine zj_iload3 (n := 10) rfl dX10_isPlaced_9 ?_
    refine zj_aload0 (n := 11) rfl dX10_isPlaced_10 ?_
    refine zj_iload1 (n := 12) rfl dX10_isPlaced_11 ?_
    refine zj_callV1 (n := 15) (a' := 0) (b' := 0) rfl dX10_isPlaced_12 zm_X10_70 (by decide) (by decide) rfl (Nat.le_of_ble_eq_true rfl) (Nat.le_of_ble_eq_true rfl) (Nat.le_of_ble_eq_true rfl) (Nat.le_of_ble_eq_true rfl) (jX10_shardsOf hA1 hg ?_)
    rw [hi1.sh]
    refine zj_icmpN_ge (n := 18) (tgt := 87) rfl dX10_isPlaced_15 (by decide) (by omega) (by omega) (fun c15 => by omega) (fun c15 => ?_)
    refine zj_aload0 (n := 19) rfl dX10_isPlaced_18 ?_
    refine zj_getr (n := 22) (q := 120) rfl dX10_isPlaced_19 zf_X10_24 rfl (by decide) (by decide) hA1.now ?_
    refine zj_bipushN (v := 6) (n := 24) rfl dX10_isPlaced_22 (by decide) ?_
    refine zj_ialoadN (e := u 6) (n := 25) rfl dX10_isPlaced_24 (by decide) rfl (by rw [show zLen 120 = 698 from rfl]; omega) (hA1.2.2 6 (by decide)) ?_
    refine zj_ifN_ne (n := 28) (tgt := 32) rfl dX10_isPlaced_25 (by decide) (by omega) (fun c25 => ?_) (fun c25 => ?_)
    · refine zj_aload0 (n := 33) rfl dX10_isPlaced_32 ?_
      refine zj_iload1 (n := 34) rfl dX10_isPlaced_33 ?_
      refine zj_iload3 (n := 35) rfl dX10_isPlaced_34 ?_
      refine zj_iconst_m1 (n := 36) rfl dX10_isPlaced_35 ?_
      refine zj_iload2 (n := 37) rfl dX10_isPlaced_36 ?_
      refine zj_iconstN_1 (n := 38) rfl dX10_isPlaced_37 ?_
      refine zj_callV5 (n := 41) (a' := 0) (b' := 0) rfl dX10_isPlaced_38 zm_X10_95 (by decide) (by decide) rfl (Nat.le_of_ble_eq_true rfl) (Nat.le_of_ble_eq_true rfl) (Nat.le_of_ble_eq_true rfl) (Nat.le_of_ble_eq_true rfl) (jX10_placeFor (more := true) (but := -1) hA1 hWu.nN (by omega) hWu.gN (fun n hn => by have q0 : nd u n 0 ≤ 9999 ∧ nd u n 1 ≤ 9 ∧ nd u n 2 ≤ 999 ∧ nd u n 3 ≤ 50 ∧ nd u n 4 ≤ 2 := hWu.node hn; omega) (by omega) (fun g hg => (hWu.sh hg).2) (fun g s hg hs => by have := hWu.holds hg hs; have := hWu.nN; omega) hg (by omega) (fun s hs => by have := hi1.2.1 s hs; omega) (fun n => by rw [if_pos rfl]; exact von_lt hWu (by omega)) ?_)
      rw [if_pos rfl]
      refine zj_istore4 (n := 43) rfl dX10_isPlaced_41 rfl (Nat.le_of_ble_eq_true rfl) ?_
      refine zj_iload4 (n := 45) rfl dX10_isPlaced_43 ?_
      refine zj_iconst_m1 (n := 46) rfl dX10_isPlaced_45 ?_
      refine zj_icmpO_ne (n := 49) (tgt := 51) rfl dX10_isPlaced_46 (by decide) (fun m hm => by have := vplace_lt hm; omega) (fun m46 c46 => ?_) (fun c46 => ?_)
      · rw [show zo (vplace u g k k (-1) p) = nI m46 from by rw [c46]; rfl]
        have hm6 : m46 < v 6 := by have := vplace_lt c46; omega
        refine zj_aload0 (n := 52) rfl dX10_isPlaced_51 ?_
        refine zj_getr (n := 55) (q := 120) rfl dX10_isPlaced_52 zf_X10_24 rfl (by decide) (by decide) hA1.now ?_
        refine zj_sipushN (v := 268) (n := 58) rfl dX10_isPlaced_55 (by decide) ?_
        refine zj_bipushN (v := 23) (n := 60) rfl dX10_isPlaced_58 (by decide) ?_
        refine zj_iload1 (n := 61) rfl dX10_isPlaced_60 ?_
        refine zj_imulN (n := 62) rfl dX10_isPlaced_61 ?_
        refine zj_iaddN (n := 63) rfl dX10_isPlaced_62 ?_
        refine zj_bipushN (v := 7) (n := 65) rfl dX10_isPlaced_63 (by decide) ?_
        refine zj_iaddN (n := 66) rfl dX10_isPlaced_65 ?_
        refine zj_iload3 (n := 67) rfl dX10_isPlaced_66 ?_
        refine zj_iaddN (n := 68) rfl dX10_isPlaced_67 ?_
        refine zj_iload4 (n := 70) rfl dX10_isPlaced_68 ?_
        refine zj_iastoreN (n := 71) rfl dX10_isPlaced_70 (by decide) rfl (by rw [show zLen 120 = 698 from rfl]; omega) ?_
        refine zj_aload0 (n := 72) rfl dX10_isPlaced_71 ?_
        refine zj_iload4 (n := 74) rfl dX10_isPlaced_72 ?_
        refine zj_iconstN_0 (n := 75) rfl dX10_isPlaced_74 ?_
        refine zj_callV2 (n := 78) (a' := 0) (b' := 0) rfl dX10_isPlaced_75 zm_X10_77 (by decide) (by decide) rfl (Nat.le_of_ble_eq_true rfl) (Nat.le_of_ble_eq_true rfl) (Nat.le_of_ble_eq_true rfl) (Nat.le_of_ble_eq_true rfl) (jX10_nodeValue (c := 0) (hA1.set (j := 268 + 23 * g + 7 + k) (x := m46)) (by omega) ?_)
        rw [vset_off (show 10 + 12 * m46 + 0 ≠ 268 + 23 * g + 7 + k by omega)]
        refine zj_iconstN_1 (n := 79) rfl dX10_isPlaced_78 ?_
        refine zj_iaddN (n := 80) rfl dX10_isPlaced_79 ?_
        refine zj_istore2 (n := 81) rfl dX10_isPlaced_80 rfl (Nat.le_of_ble_eq_true rfl) ?_
        refine zj_iincN3 (n := 84) rfl dX10_isPlaced_81 rfl (Nat.le_of_ble_eq_true rfl) ?_
        refine zj_goto (tgt := 9) dX10_isPlaced_84 (by decide) ?_
        refine zj_keep [true, true, true, true, false] ?_
        have eP := plS_succ hpl (by omega) c46
        exact hkk (by rw [eP]; rfl) _ _ _ (hF1.put) hA1.set eP
      · refine zj_iconstN_0 (n := 50) rfl dX10_isPlaced_49 ?_
        refine zj_ireturn dX10_isPlaced_50 rfl rfl ?_
        have hno := plS_none (plS_fail hpl (Or.inr c46)) (vsh v g) (by omega)
        exact h M1 u false hF1 hA1 (fun q => by cases q) (by rw [hno]; rfl) (fun j hj => hi1.1 j (by omega))
    · refine zj_iconst_m1 (n := 29) rfl dX10_isPlaced_28 ?_
      refine zj_goto (tgt := 41) dX10_isPlaced_29 (by decide) ?_
      refine zj_istore4 (n := 43) rfl dX10_isPlaced_41 rfl (Nat.le_of_ble_eq_true rfl) ?_
      refine zj_iload4 (n := 45) rfl dX10_isPlaced_43 ?_
      refine zj_iconst_m1 (n := 46) rfl dX10_isPlaced_45 ?_
      refine zj_icmp_ne (n := 49) (tgt := 51) rfl dX10_isPlaced_46 (by decide) (fun h => absurd h (by decide)) (fun _ => ?_)
      refine zj_iconstN_0 (n := 50) rfl dX10_isPlaced_49 ?_
      refine zj_ireturn dX10_isPlaced_50 rfl rfl ?_
      have hno := plS_none (plS_fail hpl (Or.inl (by omega))) (vsh v g) (by omega)
      exact h M1 u false hF1 hA1 (fun q => by cases q) (by rw [hno]; rfl) (fun j hj => hi1.1 j (by omega))
  · intro hf M1 u p hF1 hA1 hpl
    have hi1 := plS_inv hq (vsh v g) u p hpl
    refine zj_iload3 (n := 10) rfl dX10_isPlaced_9 ?_
    refine zj_aload0 (n := 11) rfl dX10_isPlaced_10 ?_
    refine zj_iload1 (n := 12) rfl dX10_isPlaced_11 ?_
    refine zj_callV1 (n := 15) (a' := 0) (b' := 0) rfl dX10_isPlaced_12 zm_X10_70 (by decide) (by decide) rfl (Nat.le_of_ble_eq_true rfl) (Nat.le_of_ble_eq_true rfl) (Nat.le_of_ble_eq_true rfl) (Nat.le_of_ble_eq_true rfl) (jX10_shardsOf hA1 hg ?_)
    rw [hi1.sh]
    refine zj_icmpN_ge (n := 18) (tgt := 87) rfl dX10_isPlaced_15 (by decide) (by omega) (by omega) (fun c15 => ?_) (fun c15 => by omega)
    refine zj_iconstN_1 (n := 88) rfl dX10_isPlaced_87 ?_
    refine zj_ireturn dX10_isPlaced_88 rfl rfl ?_
    have ek : vsh v g = vsh v g := rfl
    exact h M1 u true hF1 hA1 (fun _ => ⟨p, hpl⟩) (by rw [hpl]; rfl) (fun j hj => hi1.1 j (by omega))
def gp15 (B : Nat → Nat) (n : Nat) (v : zV) (s : zS) : zS := if sSemi B n (gp14 B n v s).2.2 && (plS (vGrp B n v s) (v 8) (vsh (vGrp B n v s) (v 8))).isNone then sRef 5 (tS B n (gp14 B n v s).2.2) (gp14 B n v s) else gp14 B n v s
def vGrpF (B : Nat → Nat) (n : Nat) (v : zV) (s : zS) : zV := match plS (vGrp B n v s) (v 8) (vsh (vGrp B n v s) (v 8)) with
  | some (u, _) => vset u 8 (v 8 + 1)
  | none => v
theorem jX10_parseGroup {n : Nat} {B : Nat → Nat} {s : zS} {v : zV} {Q : Option Value → zM → Prop} {X : String → zM → Prop} {M : zM} (hP : zPm M n B s) (hA : zRA M 120 v) (hW : zWF v) (hN : zNmS v) (h : ∀ M' v', zHf M M' → zPm M' n B (gp15 B n v s) → zRA M' 120 v' → ((sEnd B n (gp15 B n v s)).1 = 0 → v' = vGrpF B n v s) → Q none M') : zJ yX10_parseGroup cX10_parseGroup 3 none rX10_parseGroup Q X rX10_parseGroup.cells rX10_parseGroup.slots 0 (zEnt 3 [.ref 118]) [] M := by
  have h6 := hW.nN
  have h7 := hW.tN
  have h8 := hW.gN
  have sEndOk : ∀ {x : zS}, (sEnd B n x).1 = 0 → x.1 = 0 ∧ sSemi B n x.2.2 = true := fun {x} q => by
    have q1 := (sErr_ok (by decide)).mp (sNext_ok.mp q)
    exact ⟨q1.1, by have := q1.2; simpa using this⟩
  have g15n : (gp14 B n v s).1 ≠ 0 → gp15 B n v s = gp14 B n v s := fun q => by unfold gp15; rw [sRef_no q, ite_self]
  have g15s : sSemi B n (gp14 B n v s).2.2 = false → gp15 B n v s = gp14 B n v s := fun q => by unfold gp15; rw [q]; rfl
  have g15y : sSemi B n (gp14 B n v s).2.2 = true → (plS (vGrp B n v s) (v 8) (vsh (vGrp B n v s) (v 8))).isNone = false → gp15 B n v s = gp14 B n v s := fun q q2 => by unfold gp15; rw [q, q2]; rfl
  have g15f : sSemi B n (gp14 B n v s).2.2 = true → (plS (vGrp B n v s) (v 8) (vsh (vGrp B n v s) (v 8))).isNone = true → gp15 B n v s = sRef 5 (tS B n (gp14 B n v s).2.2) (gp14 B n v s) := fun q q2 => by unfold gp15; rw [q, q2]; rfl
  show zJ yX10_parseGroup cX10_parseGroup 3 none rX10_parseGroup Q X 0 0 0 [some (.ref 118), none, none] [] M
  refine zj_aload0 (n := 1) rfl dX10_parseGroup_0 ?_
  refine zj_aload0 (n := 2) rfl dX10_parseGroup_1 ?_
  refine zj_getr (n := 5) (q := 120) rfl dX10_parseGroup_2 zf_X10_24 rfl (by decide) (by decide) hA.now ?_
  refine zj_bipushN (v := 8) (n := 7) rfl dX10_parseGroup_5 (by decide) ?_
  refine zj_ialoadN (e := v 8) (n := 8) rfl dX10_parseGroup_7 (by decide) rfl (by rw [show zLen 120 = 698 from rfl]; omega) (hA.2.2 _ (by omega)) ?_
  refine zj_bipushN (v := 10) (n := 10) rfl dX10_parseGroup_8 (by decide) ?_
  refine zj_icmpN_ge (n := 13) (tgt := 17) rfl dX10_parseGroup_10 (by decide) (by omega) (by omega) (fun c10 => ?_) (fun c10 => ?_)
  · refine zj_iconstN_0 (n := 18) rfl dX10_parseGroup_17 ?_
    rw [show nI 0 = zb (decide (v 8 < 10)) from by rw [decide_eq_false (by omega)]; rfl]
    refine zj_callV1 (n := 21) (a' := 0) (b' := 0) rfl dX10_parseGroup_18 zm_X10_346 (by decide) (by decide) rfl (Nat.le_of_ble_eq_true rfl) (Nat.le_of_ble_eq_true rfl) (Nat.le_of_ble_eq_true rfl) (Nat.le_of_ble_eq_true rfl) (jX10_begins hP ?_)
    intro M1 hG1 hP1
    have hF1 : zHf M M1 := zHf.of hG1
    have hA1 := hA.gf hG1
    change zPm M1 n B (gp1 B n v s) at hP1
    refine zj_ifB_ne (n := 24) (tgt := 25) rfl dX10_parseGroup_21 (by decide) (fun c21 => ?_) (fun c21 => ?_)
    · have hlt : v 8 < 10 := by have q := ((sErr_ok (by decide)).mp (sNext_ok.mp (of_decide_eq_true c21))).2; simpa using q
      refine zj_aload0 (n := 26) rfl dX10_parseGroup_25 ?_
      refine zj_getr (n := 29) (q := 120) rfl dX10_parseGroup_26 zf_X10_24 rfl (by decide) (by decide) hA1.now ?_
      refine zj_bipushN (v := 8) (n := 31) rfl dX10_parseGroup_29 (by decide) ?_
      refine zj_ialoadN (e := v 8) (n := 32) rfl dX10_parseGroup_31 (by decide) rfl (by rw [show zLen 120 = 698 from rfl]; omega) (hA1.2.2 _ (by omega)) ?_
      refine zj_istore1 (n := 33) rfl dX10_parseGroup_32 rfl (Nat.le_of_ble_eq_true rfl) ?_
      refine zj_sipushN (v := 268) (n := 36) rfl dX10_parseGroup_33 (by decide) ?_
      refine zj_bipushN (v := 23) (n := 38) rfl dX10_parseGroup_36 (by decide) ?_
      refine zj_iload1 (n := 39) rfl dX10_parseGroup_38 ?_
      refine zj_imulN (n := 40) rfl dX10_parseGroup_39 ?_
      refine zj_iaddN (n := 41) rfl dX10_parseGroup_40 ?_
      refine zj_istore2 (n := 42) rfl dX10_parseGroup_41 rfl (Nat.le_of_ble_eq_true rfl) ?_
      refine zj_aload0 (n := 43) rfl dX10_parseGroup_42 ?_
      refine zj_iconstN_2 (n := 44) rfl dX10_parseGroup_43 ?_
      refine zj_iload2 (n := 45) rfl dX10_parseGroup_44 ?_
      refine zj_bipushN (v := 17) (n := 47) rfl dX10_parseGroup_45 (by decide) ?_
      refine zj_iaddN (n := 48) rfl dX10_parseGroup_47 ?_
      refine zj_callV2 (n := 51) (a' := 0) (b' := 0) rfl dX10_parseGroup_48 zm_X10_349 (by decide) (by decide) rfl (Nat.le_of_ble_eq_true rfl) (Nat.le_of_ble_eq_true rfl) (Nat.le_of_ble_eq_true rfl) (Nat.le_of_ble_eq_true rfl) (jX10_newName hP1 hA1 hW hN (by decide) (by omega) ?_)
      intro M2 e2 he2 hG2 hP2 hA2
      have hF2 : zHf M M2 := hF1.tr hG2
      change zPm M2 n B (gp2 B n v s) at hP2
      refine zj_aload0 (n := 52) rfl dX10_parseGroup_51 ?_
      refine zj_ldcwS (i := 17) (n := 55) rfl dX10_parseGroup_52 rfl (by decide) rfl ?_
      refine zj_callV1 (n := 58) (a' := 0) (b' := 0) rfl dX10_parseGroup_55 zm_X10_323 (by decide) (by decide) rfl (Nat.le_of_ble_eq_true rfl) (Nat.le_of_ble_eq_true rfl) (Nat.le_of_ble_eq_true rfl) (Nat.le_of_ble_eq_true rfl) (jX10_word hP2 (by decide) ?_)
      intro M3 hG3 hP3
      have hF3 : zHf M M3 := hF2.tr (zHf.of hG3)
      have hA3 := hA2.gf hG3
      change zPm M3 n B (gp3 B n v s) at hP3
      refine zj_aload0 (n := 59) rfl dX10_parseGroup_58 ?_
      refine zj_callV0 (n := 62) (a' := 0) (b' := 0) rfl dX10_parseGroup_59 zm_X10_340 (by decide) (by decide) rfl (Nat.le_of_ble_eq_true rfl) (Nat.le_of_ble_eq_true rfl) (Nat.le_of_ble_eq_true rfl) (Nat.le_of_ble_eq_true rfl) (jX10_checkName hP3 ?_)
      intro M4 hG4 hP4
      have hF4 : zHf M M4 := hF3.tr (zHf.of2 hG4)
      have hA4 := hA3.gf hG4
      change zPm M4 n B (gp4c B n v s) at hP4
      refine zj_aload0 (n := 63) rfl dX10_parseGroup_62 ?_
      refine zj_getr (n := 66) (q := 120) rfl dX10_parseGroup_63 zf_X10_24 rfl (by decide) (by decide) hA4.now ?_
      refine zj_iload2 (n := 67) rfl dX10_parseGroup_66 ?_
      refine zj_iconstN_0 (n := 68) rfl dX10_parseGroup_67 ?_
      refine zj_iaddN (n := 69) rfl dX10_parseGroup_68 ?_
      refine zj_aload0 (n := 70) rfl dX10_parseGroup_69 ?_
      refine zj_callV0 (n := 73) (a' := 0) (b' := 0) rfl dX10_parseGroup_70 zm_X10_226 (by decide) (by decide) rfl (Nat.le_of_ble_eq_true rfl) (Nat.le_of_ble_eq_true rfl) (Nat.le_of_ble_eq_true rfl) (Nat.le_of_ble_eq_true rfl) (jX10_good hP4 ?_)
      refine zj_ifB_eq (n := 76) (tgt := 84) rfl dX10_parseGroup_73 (by decide) (fun c73 => ?_) (fun c73 => ?_)
      · refine zj_iconstN_0 (n := 85) rfl dX10_parseGroup_84 ?_
        obtain ⟨x5, hx5, hy5, hz5⟩ : ∃ x5, nI x5 = nI 0 ∧ ((gp4c B n v s).1 = 0 → nI x5 = zo (gpt B n v s)) ∧ ((gp4c B n v s).1 = 0 → ∀ t, gpt B n v s = some t → x5 = t) := ⟨0, rfl, fun q => absurd q (of_decide_eq_false c73), fun q => absurd q (of_decide_eq_false c73)⟩
        rw [← hx5]
        refine zj_iastoreN (n := 86) rfl dX10_parseGroup_85 (by decide) rfl (by rw [show zLen 120 = 698 from rfl]; omega) ?_
        refine zj_gen (P := fun M5 => zHf M M5 ∧ zPm M5 n B (gp4c B n v s) ∧ zRA M5 120 (vset (vlet v (268 + 23 * v 8 + 17) B (tS B n e2) (tE B n e2)) (268 + 23 * v 8 + 0) x5)) ⟨hF4.put, hP4.st, hA4.set⟩ ?_
        intro M5 h5
        obtain ⟨hF5, hP5, hA5⟩ := h5
        refine zj_aload0 (n := 87) rfl dX10_parseGroup_86 ?_
        refine zj_callV0 (n := 90) (a' := 0) (b' := 0) rfl dX10_parseGroup_87 zm_X10_226 (by decide) (by decide) rfl (Nat.le_of_ble_eq_true rfl) (Nat.le_of_ble_eq_true rfl) (Nat.le_of_ble_eq_true rfl) (Nat.le_of_ble_eq_true rfl) (jX10_good hP5 ?_)
        refine zj_ifB_eq (n := 93) (tgt := 110) rfl dX10_parseGroup_90 (by decide) (fun c90 => ?_) (fun c90 => ?_)
        · refine zj_gen (P := fun M6 => zHf M M6 ∧ zPm M6 n B (gp4e B n v s) ∧ zRA M6 120 (vset (vlet v (268 + 23 * v 8 + 17) B (tS B n e2) (tE B n e2)) (268 + 23 * v 8 + 0) x5)) ⟨hF5, (by unfold gp4e; rw [sErr_no (of_decide_eq_false c90)]; exact hP5), hA5⟩ ?_
          intro M6 h6
          obtain ⟨hF6, hP6, hA6⟩ := h6
          refine zj_aload0 (n := 111) rfl dX10_parseGroup_110 ?_
          refine zj_callV0 (n := 114) (a' := 0) (b' := 0) rfl dX10_parseGroup_111 zm_X10_320 (by decide) (by decide) rfl (Nat.le_of_ble_eq_true rfl) (Nat.le_of_ble_eq_true rfl) (Nat.le_of_ble_eq_true rfl) (Nat.le_of_ble_eq_true rfl) (jX10_goOn hP6 ?_)
          intro M7 hG7 hP7
          have hF7 : zHf M M7 := hF6.tr (zHf.of hG7)
          have hA7 := hA6.gf hG7
          change zPm M7 n B (gp4 B n v s) at hP7
          refine zj_aload0 (n := 115) rfl dX10_parseGroup_114 ?_
          refine zj_getr (n := 118) (q := 120) rfl dX10_parseGroup_115 zf_X10_24 rfl (by decide) (by decide) hA7.now ?_
          refine zj_iload2 (n := 119) rfl dX10_parseGroup_118 ?_
          refine zj_iconstN_1 (n := 120) rfl dX10_parseGroup_119 ?_
          refine zj_iaddN (n := 121) rfl dX10_parseGroup_120 ?_
          refine zj_aload0 (n := 122) rfl dX10_parseGroup_121 ?_
          refine zj_ldcwS (i := 18) (n := 125) rfl dX10_parseGroup_122 rfl (by decide) rfl ?_
          refine zj_iconstN_0 (n := 126) rfl dX10_parseGroup_125 ?_
          refine zj_sipushN (v := 9999) (n := 129) rfl dX10_parseGroup_126 (by decide) ?_
          refine zj_callV3 (n := 132) (a' := 0) (b' := 0) rfl dX10_parseGroup_129 zm_X10_355 (by decide) (by decide) rfl (Nat.le_of_ble_eq_true rfl) (Nat.le_of_ble_eq_true rfl) (Nat.le_of_ble_eq_true rfl) (Nat.le_of_ble_eq_true rfl) (jX10_numberAfter hP7 (by decide) (by decide) (by decide) ?_)
          intro M8 x8 hx8b hG8 hP8 hx8
          have hF8 : zHf M M8 := hF7.tr (zHf.of hG8)
          have hA8 := hA7.gf hG8
          change zPm M8 n B (gp6 B n v s) at hP8
          refine zj_iastoreN (n := 133) rfl dX10_parseGroup_132 (by decide) rfl (by rw [show zLen 120 = 698 from rfl]; omega) ?_
          refine zj_gen (P := fun M9 => zHf M M9 ∧ zPm M9 n B (gp6 B n v s) ∧ zRA M9 120 (vset (vset (vlet v (268 + 23 * v 8 + 17) B (tS B n e2) (tE B n e2)) (268 + 23 * v 8 + 0) x5) (268 + 23 * v 8 + 1) x8)) ⟨hF8.put, hP8.st, hA8.set⟩ ?_
          intro M9 h9
          obtain ⟨hF9, hP9, hA9⟩ := h9
          refine zj_aload0 (n := 134) rfl dX10_parseGroup_133 ?_
          refine zj_getr (n := 137) (q := 120) rfl dX10_parseGroup_134 zf_X10_24 rfl (by decide) (by decide) hA9.now ?_
          refine zj_iload2 (n := 138) rfl dX10_parseGroup_137 ?_
          refine zj_iconstN_2 (n := 139) rfl dX10_parseGroup_138 ?_
          refine zj_iaddN (n := 140) rfl dX10_parseGroup_139 ?_
          refine zj_aload0 (n := 141) rfl dX10_parseGroup_140 ?_
          refine zj_ldcwS (i := 19) (n := 144) rfl dX10_parseGroup_141 rfl (by decide) rfl ?_
          refine zj_iconstN_1 (n := 145) rfl dX10_parseGroup_144 ?_
          refine zj_bipushN (v := 6) (n := 147) rfl dX10_parseGroup_145 (by decide) ?_
          refine zj_callV3 (n := 150) (a' := 0) (b' := 0) rfl dX10_parseGroup_147 zm_X10_355 (by decide) (by decide) rfl (Nat.le_of_ble_eq_true rfl) (Nat.le_of_ble_eq_true rfl) (Nat.le_of_ble_eq_true rfl) (Nat.le_of_ble_eq_true rfl) (jX10_numberAfter hP9 (by decide) (by decide) (by decide) ?_)
          intro M10 x10 hx10b hG10 hP10 hx10
          have hF10 : zHf M M10 := hF9.tr (zHf.of hG10)
          have hA10 := hA9.gf hG10
          change zPm M10 n B (gp8 B n v s) at hP10
          refine zj_iastoreN (n := 151) rfl dX10_parseGroup_150 (by decide) rfl (by rw [show zLen 120 = 698 from rfl]; omega) ?_
          refine zj_gen (P := fun M11 => zHf M M11 ∧ zPm M11 n B (gp8 B n v s) ∧ zRA M11 120 (vset (vset (vset (vlet v (268 + 23 * v 8 + 17) B (tS B n e2) (tE B n e2)) (268 + 23 * v 8 + 0) x5) (268 + 23 * v 8 + 1) x8) (268 + 23 * v 8 + 2) x10)) ⟨hF10.put, hP10.st, hA10.set⟩ ?_
          intro M11 h11
          obtain ⟨hF11, hP11, hA11⟩ := h11
          refine zj_aload0 (n := 152) rfl dX10_parseGroup_151 ?_
          refine zj_getr (n := 155) (q := 120) rfl dX10_parseGroup_152 zf_X10_24 rfl (by decide) (by decide) hA11.now ?_
          refine zj_iload2 (n := 156) rfl dX10_parseGroup_155 ?_
          refine zj_iconstN_3 (n := 157) rfl dX10_parseGroup_156 ?_
          refine zj_iaddN (n := 158) rfl dX10_parseGroup_157 ?_
          refine zj_aload0 (n := 159) rfl dX10_parseGroup_158 ?_
          refine zj_ldcwS (i := 20) (n := 162) rfl dX10_parseGroup_159 rfl (by decide) rfl ?_
          refine zj_iconstN_1 (n := 163) rfl dX10_parseGroup_162 ?_
          refine zj_iconstN_4 (n := 164) rfl dX10_parseGroup_163 ?_
          refine zj_callV3 (n := 167) (a' := 0) (b' := 0) rfl dX10_parseGroup_164 zm_X10_355 (by decide) (by decide) rfl (Nat.le_of_ble_eq_true rfl) (Nat.le_of_ble_eq_true rfl) (Nat.le_of_ble_eq_true rfl) (Nat.le_of_ble_eq_true rfl) (jX10_numberAfter hP11 (by decide) (by decide) (by decide) ?_)
          intro M12 x12 hx12b hG12 hP12 hx12
          have hF12 : zHf M M12 := hF11.tr (zHf.of hG12)
          have hA12 := hA11.gf hG12
          change zPm M12 n B (gp10 B n v s) at hP12
          refine zj_iastoreN (n := 168) rfl dX10_parseGroup_167 (by decide) rfl (by rw [show zLen 120 = 698 from rfl]; omega) ?_
          refine zj_gen (P := fun M13 => zHf M M13 ∧ zPm M13 n B (gp10 B n v s) ∧ zRA M13 120 (vset (vset (vset (vset (vlet v (268 + 23 * v 8 + 17) B (tS B n e2) (tE B n e2)) (268 + 23 * v 8 + 0) x5) (268 + 23 * v 8 + 1) x8) (268 + 23 * v 8 + 2) x10) (268 + 23 * v 8 + 3) x12)) ⟨hF12.put, hP12.st, hA12.set⟩ ?_
          intro M13 h13
          obtain ⟨hF13, hP13, hA13⟩ := h13
          refine zj_aload0 (n := 169) rfl dX10_parseGroup_168 ?_
          refine zj_getr (n := 172) (q := 120) rfl dX10_parseGroup_169 zf_X10_24 rfl (by decide) (by decide) hA13.now ?_
          refine zj_iload2 (n := 173) rfl dX10_parseGroup_172 ?_
          refine zj_iconstN_4 (n := 174) rfl dX10_parseGroup_173 ?_
          refine zj_iaddN (n := 175) rfl dX10_parseGroup_174 ?_
          refine zj_aload0 (n := 176) rfl dX10_parseGroup_175 ?_
          refine zj_ldcwS (i := 21) (n := 179) rfl dX10_parseGroup_176 rfl (by decide) rfl ?_
          refine zj_iconstN_1 (n := 180) rfl dX10_parseGroup_179 ?_
          refine zj_bipushN (v := 100) (n := 182) rfl dX10_parseGroup_180 (by decide) ?_
          refine zj_callV3 (n := 185) (a' := 0) (b' := 0) rfl dX10_parseGroup_182 zm_X10_355 (by decide) (by decide) rfl (Nat.le_of_ble_eq_true rfl) (Nat.le_of_ble_eq_true rfl) (Nat.le_of_ble_eq_true rfl) (Nat.le_of_ble_eq_true rfl) (jX10_numberAfter hP13 (by decide) (by decide) (by decide) ?_)
          intro M14 x14 hx14b hG14 hP14 hx14
          have hF14 : zHf M M14 := hF13.tr (zHf.of hG14)
          have hA14 := hA13.gf hG14
          change zPm M14 n B (gp12 B n v s) at hP14
          refine zj_iastoreN (n := 186) rfl dX10_parseGroup_185 (by decide) rfl (by rw [show zLen 120 = 698 from rfl]; omega) ?_
          refine zj_gen (P := fun M15 => zHf M M15 ∧ zPm M15 n B (gp12 B n v s) ∧ zRA M15 120 (vset (vset (vset (vset (vset (vlet v (268 + 23 * v 8 + 17) B (tS B n e2) (tE B n e2)) (268 + 23 * v 8 + 0) x5) (268 + 23 * v 8 + 1) x8) (268 + 23 * v 8 + 2) x10) (268 + 23 * v 8 + 3) x12) (268 + 23 * v 8 + 4) x14)) ⟨hF14.put, hP14.st, hA14.set⟩ ?_
          intro M15 h15
          obtain ⟨hF15, hP15, hA15⟩ := h15
          refine zj_aload0 (n := 187) rfl dX10_parseGroup_186 ?_
          refine zj_getr (n := 190) (q := 120) rfl dX10_parseGroup_187 zf_X10_24 rfl (by decide) (by decide) hA15.now ?_
          refine zj_iload2 (n := 191) rfl dX10_parseGroup_190 ?_
          refine zj_iconstN_5 (n := 192) rfl dX10_parseGroup_191 ?_
          refine zj_iaddN (n := 193) rfl dX10_parseGroup_192 ?_
          refine zj_aload0 (n := 194) rfl dX10_parseGroup_193 ?_
          refine zj_ldcwS (i := 22) (n := 197) rfl dX10_parseGroup_194 rfl (by decide) rfl ?_
          refine zj_iconstN_1 (n := 198) rfl dX10_parseGroup_197 ?_
          refine zj_sipushN (v := 9999) (n := 201) rfl dX10_parseGroup_198 (by decide) ?_
          refine zj_callV3 (n := 204) (a' := 0) (b' := 0) rfl dX10_parseGroup_201 zm_X10_355 (by decide) (by decide) rfl (Nat.le_of_ble_eq_true rfl) (Nat.le_of_ble_eq_true rfl) (Nat.le_of_ble_eq_true rfl) (Nat.le_of_ble_eq_true rfl) (jX10_numberAfter hP15 (by decide) (by decide) (by decide) ?_)
          intro M16 x16 hx16b hG16 hP16 hx16
          have hF16 : zHf M M16 := hF15.tr (zHf.of hG16)
          have hA16 := hA15.gf hG16
          change zPm M16 n B (gp14 B n v s) at hP16
          refine zj_iastoreN (n := 205) rfl dX10_parseGroup_204 (by decide) rfl (by rw [show zLen 120 = 698 from rfl]; omega) ?_
          refine zj_gen (P := fun M17 => zHf M M17 ∧ zPm M17 n B (gp14 B n v s) ∧ zRA M17 120 (vset (vset (vset (vset (vset (vset (vlet v (268 + 23 * v 8 + 17) B (tS B n e2) (tE B n e2)) (268 + 23 * v 8 + 0) x5) (268 + 23 * v 8 + 1) x8) (268 + 23 * v 8 + 2) x10) (268 + 23 * v 8 + 3) x12) (268 + 23 * v 8 + 4) x14) (268 + 23 * v 8 + 5) x16)) ⟨hF16.put, hP16.st, hA16.set⟩ ?_
          intro M17 h17
          obtain ⟨hF17, hP17, hA17⟩ := h17
          obtain ⟨hT17, -, -, -, -, e17, hen17, hK17, he17⟩ := id hP17
          have hts17 := tS_le (B := B) hen17
          have hk17 : tK B n e17 ≤ 3 := sK_le
          refine zj_aload0 (n := 206) rfl dX10_parseGroup_205 ?_
          refine zj_callV0 (n := 209) (a' := 0) (b' := 0) rfl dX10_parseGroup_206 zm_X10_226 (by decide) (by decide) rfl (Nat.le_of_ble_eq_true rfl) (Nat.le_of_ble_eq_true rfl) (Nat.le_of_ble_eq_true rfl) (Nat.le_of_ble_eq_true rfl) (jX10_good hP17 ?_)
          refine zj_ifB_eq (n := 212) (tgt := 242) rfl dX10_parseGroup_209 (by decide) (fun c209 => ?_) (fun c209 => ?_)
          · refine zj_gen (P := fun M20 => ∃ w, zHf M M20 ∧ zPm M20 n B (gp15 B n v s) ∧ zRA M20 120 w ∧ w 8 = v 8 ∧ ((sEnd B n (gp15 B n v s)).1 = 0 → vset w 8 (v 8 + 1) = vGrpF B n v s)) ⟨_, hF17, (by rw [g15n (of_decide_eq_false c209)]; exact hP17), hA17, (by rw [vset_off (by omega), vset_off (by omega), vset_off (by omega), vset_off (by omega), vset_off (by omega), vset_off (by omega), vlet_off (by omega)]), (fun q => absurd (sEndOk q).1 (by rw [g15n (of_decide_eq_false c209)]; exact of_decide_eq_false c209))⟩ ?_
            intro M20 h20
            obtain ⟨w, hF21, hP21, hA21, hw8, hwV⟩ := h20
            refine zj_aload0 (n := 243) rfl dX10_parseGroup_242 ?_
            refine zj_callV0 (n := 246) (a' := 0) (b' := 0) rfl dX10_parseGroup_243 zm_X10_226 (by decide) (by decide) rfl (Nat.le_of_ble_eq_true rfl) (Nat.le_of_ble_eq_true rfl) (Nat.le_of_ble_eq_true rfl) (Nat.le_of_ble_eq_true rfl) (jX10_good hP21 ?_)
            refine zj_ifB_eq (n := 249) (tgt := 260) rfl dX10_parseGroup_246 (by decide) (fun c246 => ?_) (fun c246 => ?_)
            · exact zj_return dX10_parseGroup_260 rfl (h M20 w hF21 hP21 hA21 (fun q => absurd (sEndOk q).1 (of_decide_eq_false c246)))
            · refine zj_aload0 (n := 250) rfl dX10_parseGroup_249 ?_
              refine zj_getr (n := 253) (q := 120) rfl dX10_parseGroup_250 zf_X10_24 rfl (by decide) (by decide) hA21.now ?_
              refine zj_bipushN (v := 8) (n := 255) rfl dX10_parseGroup_253 (by decide) ?_
              refine zj_dup2 (n := 256) rfl dX10_parseGroup_255 ?_
              refine zj_ialoadN (e := v 8) (n := 257) rfl dX10_parseGroup_256 (by decide) rfl (by rw [show zLen 120 = 698 from rfl]; omega) (by rw [hA21.2.2 8 (by decide), hw8]) ?_
              refine zj_iconstN_1 (n := 258) rfl dX10_parseGroup_257 ?_
              refine zj_iaddN (n := 259) rfl dX10_parseGroup_258 ?_
              refine zj_iastoreN (n := 260) rfl dX10_parseGroup_259 (by decide) rfl (by rw [show zLen 120 = 698 from rfl]; omega) ?_
              refine zj_return dX10_parseGroup_260 rfl ?_
              exact h _ _ hF21.put hP21.st hA21.set hwV
          · have q14 := of_decide_eq_true c209
            refine zj_aload0 (n := 213) rfl dX10_parseGroup_212 ?_
            refine zj_getiN (e := tK B n e17) (n := 216) rfl dX10_parseGroup_213 zf_X10_242 rfl (by decide) (by decide) hK17.1 ?_
            refine zj_iconstN_3 (n := 217) rfl dX10_parseGroup_216 ?_
            refine zj_icmpN_ne (n := 220) (tgt := 242) rfl dX10_parseGroup_217 (by decide) (by omega) (by omega) (fun c217 => ?_) (fun c217 => ?_)
            · refine zj_gen (P := fun M20 => ∃ w, zHf M M20 ∧ zPm M20 n B (gp15 B n v s) ∧ zRA M20 120 w ∧ w 8 = v 8 ∧ ((sEnd B n (gp15 B n v s)).1 = 0 → vset w 8 (v 8 + 1) = vGrpF B n v s)) ⟨_, hF17, (by rw [g15s (by unfold sSemi; rw [← he17 q14, beq_false_of_ne c217]; rfl)]; exact hP17), hA17, (by rw [vset_off (by omega), vset_off (by omega), vset_off (by omega), vset_off (by omega), vset_off (by omega), vset_off (by omega), vlet_off (by omega)]), (fun q => absurd (sEndOk q).2 (by rw [g15s (by unfold sSemi; rw [← he17 q14, beq_false_of_ne c217]; rfl)]; unfold sSemi; rw [← he17 q14, beq_false_of_ne c217]; simp))⟩ ?_
              intro M20 h20
              obtain ⟨w, hF21, hP21, hA21, hw8, hwV⟩ := h20
              refine zj_aload0 (n := 243) rfl dX10_parseGroup_242 ?_
              refine zj_callV0 (n := 246) (a' := 0) (b' := 0) rfl dX10_parseGroup_243 zm_X10_226 (by decide) (by decide) rfl (Nat.le_of_ble_eq_true rfl) (Nat.le_of_ble_eq_true rfl) (Nat.le_of_ble_eq_true rfl) (Nat.le_of_ble_eq_true rfl) (jX10_good hP21 ?_)
              refine zj_ifB_eq (n := 249) (tgt := 260) rfl dX10_parseGroup_246 (by decide) (fun c246 => ?_) (fun c246 => ?_)
              · exact zj_return dX10_parseGroup_260 rfl (h M20 w hF21 hP21 hA21 (fun q => absurd (sEndOk q).1 (of_decide_eq_false c246)))
              · refine zj_aload0 (n := 250) rfl dX10_parseGroup_249 ?_
                refine zj_getr (n := 253) (q := 120) rfl dX10_parseGroup_250 zf_X10_24 rfl (by decide) (by decide) hA21.now ?_
                refine zj_bipushN (v := 8) (n := 255) rfl dX10_parseGroup_253 (by decide) ?_
                refine zj_dup2 (n := 256) rfl dX10_parseGroup_255 ?_
                refine zj_ialoadN (e := v 8) (n := 257) rfl dX10_parseGroup_256 (by decide) rfl (by rw [show zLen 120 = 698 from rfl]; omega) (by rw [hA21.2.2 8 (by decide), hw8]) ?_
                refine zj_iconstN_1 (n := 258) rfl dX10_parseGroup_257 ?_
                refine zj_iaddN (n := 259) rfl dX10_parseGroup_258 ?_
                refine zj_iastoreN (n := 260) rfl dX10_parseGroup_259 (by decide) rfl (by rw [show zLen 120 = 698 from rfl]; omega) ?_
                refine zj_return dX10_parseGroup_260 rfl ?_
                exact h _ _ hF21.put hP21.st hA21.set hwV
            · refine zj_aload0 (n := 221) rfl dX10_parseGroup_220 ?_
              refine zj_getiN (e := B (tS B n e17)) (n := 224) rfl dX10_parseGroup_221 zf_X10_253 rfl (by decide) (by decide) (hK17.2.2.2.2 c217) ?_
              have hsn17 : tS B n e17 < n := by
                by_cases w : tS B n e17 < n
                · exact w
                · rw [show tK B n e17 = 0 from sK_0.mpr w] at c217; cases c217
              have hb17 := (hT17.2.2 _ hsn17).1
              refine zj_bipushN (v := 59) (n := 226) rfl dX10_parseGroup_224 (by decide) ?_
              refine zj_icmpN_ne (n := 229) (tgt := 242) rfl dX10_parseGroup_226 (by decide) (by omega) (by omega) (fun c226 => ?_) (fun c226 => ?_)
              · refine zj_gen (P := fun M20 => ∃ w, zHf M M20 ∧ zPm M20 n B (gp15 B n v s) ∧ zRA M20 120 w ∧ w 8 = v 8 ∧ ((sEnd B n (gp15 B n v s)).1 = 0 → vset w 8 (v 8 + 1) = vGrpF B n v s)) ⟨_, hF17, (by rw [g15s (by unfold sSemi; rw [← he17 q14, beq_false_of_ne c226, Bool.and_false])]; exact hP17), hA17, (by rw [vset_off (by omega), vset_off (by omega), vset_off (by omega), vset_off (by omega), vset_off (by omega), vset_off (by omega), vlet_off (by omega)]), (fun q => absurd (sEndOk q).2 (by rw [g15s (by unfold sSemi; rw [← he17 q14, beq_false_of_ne c226, Bool.and_false])]; unfold sSemi; rw [← he17 q14, beq_false_of_ne c226]; simp))⟩ ?_
                intro M20 h20
                obtain ⟨w, hF21, hP21, hA21, hw8, hwV⟩ := h20
                refine zj_aload0 (n := 243) rfl dX10_parseGroup_242 ?_
                refine zj_callV0 (n := 246) (a' := 0) (b' := 0) rfl dX10_parseGroup_243 zm_X10_226 (by decide) (by decide) rfl (Nat.le_of_ble_eq_true rfl) (Nat.le_of_ble_eq_true rfl) (Nat.le_of_ble_eq_true rfl) (Nat.le_of_ble_eq_true rfl) (jX10_good hP21 ?_)
                refine zj_ifB_eq (n := 249) (tgt := 260) rfl dX10_parseGroup_246 (by decide) (fun c246 => ?_) (fun c246 => ?_)
                · exact zj_return dX10_parseGroup_260 rfl (h M20 w hF21 hP21 hA21 (fun q => absurd (sEndOk q).1 (of_decide_eq_false c246)))
                · refine zj_aload0 (n := 250) rfl dX10_parseGroup_249 ?_
                  refine zj_getr (n := 253) (q := 120) rfl dX10_parseGroup_250 zf_X10_24 rfl (by decide) (by decide) hA21.now ?_
                  refine zj_bipushN (v := 8) (n := 255) rfl dX10_parseGroup_253 (by decide) ?_
                  refine zj_dup2 (n := 256) rfl dX10_parseGroup_255 ?_
                  refine zj_ialoadN (e := v 8) (n := 257) rfl dX10_parseGroup_256 (by decide) rfl (by rw [show zLen 120 = 698 from rfl]; omega) (by rw [hA21.2.2 8 (by decide), hw8]) ?_
                  refine zj_iconstN_1 (n := 258) rfl dX10_parseGroup_257 ?_
                  refine zj_iaddN (n := 259) rfl dX10_parseGroup_258 ?_
                  refine zj_iastoreN (n := 260) rfl dX10_parseGroup_259 (by decide) rfl (by rw [show zLen 120 = 698 from rfl]; omega) ?_
                  refine zj_return dX10_parseGroup_260 rfl ?_
                  exact h _ _ hF21.put hP21.st hA21.set hwV
              · have hsem : sSemi B n (gp14 B n v s).2.2 = true := by unfold sSemi; rw [← he17 q14, c217, c226]; rfl
                have q13 := (sNum_ok q14).1
                have q12 := (sTake_ok q13).1
                have q11 := (sNum_ok q12).1
                have q10 := (sTake_ok q11).1
                have q9 := (sNum_ok q10).1
                have q8 := (sTake_ok q9).1
                have q7 := (sNum_ok q8).1
                have q6 := (sTake_ok q7).1
                have q5 := (sNum_ok q6).1
                have q4 := (sTake_ok q5).1
                have q4e := (sErr_ok (by decide)).mp (sNext_ok.mp q4)
                have q3 := ((sErr_ok (by decide)).mp q4e.1).1
                have q2 := sNext_ok.mp (sTake_ok q3).1
                have r2 := he2 q2
                have r5 := hy5 q4e.1
                have r8 := hx8 q6
                have r10 := hx10 q8
                have r12 := hx12 q10
                have r14 := hx14 q12
                have r16 := hx16 q14
                have b8 := (sNum_ok q6).2.2
                have b10 := (sNum_ok q8).2.2
                have b12 := (sNum_ok q10).2.2
                have b14 := (sNum_ok q12).2.2
                have b16 := (sNum_ok q14).2.2
                have eV : vset (vset (vset (vset (vset (vset (vlet v (268 + 23 * v 8 + 17) B (tS B n e2) (tE B n e2)) (268 + 23 * v 8 + 0) x5) (268 + 23 * v 8 + 1) x8) (268 + 23 * v 8 + 2) x10) (268 + 23 * v 8 + 3) x12) (268 + 23 * v 8 + 4) x14) (268 + 23 * v 8 + 5) x16 = vGrp B n v s := by
                  subst r2
                  have e5 : (gpt B n v s).getD 0 = x5 := by
                    cases q : gpt B n v s with
                    | none => have := q4e.2; rw [q] at this; cases this
                    | some t => exact (hz5 q4e.1 t q).symm
                  unfold vGrp
                  rw [e5, r8, r10, r12, r14, r16]
                  rfl
                have hv8 : vGrp B n v s 8 = v 8 := by rw [← eV]; rw [vset_off (by omega), vset_off (by omega), vset_off (by omega), vset_off (by omega), vset_off (by omega), vset_off (by omega), vlet_off (by omega)]
                have hA17v : zRA M17 120 (vGrp B n v s) := eV ▸ hA17
                have hpq : zPq (vGrp B n v s) (v 8) := by
                  have hag : ∀ j, zAc v j → vGrp B n v s j = v j := fun j hj => by
                    unfold zAc at hj
                    rw [← eV]
                    rw [vset_off (by omega), vset_off (by omega), vset_off (by omega), vset_off (by omega), vset_off (by omega), vset_off (by omega), vlet_off (by omega)]
                  refine ⟨hW.ag hag, hv8, hlt, ?_, ?_⟩
                  · show vGrp B n v s (268 + 23 * v 8 + 2) + vGrp B n v s (268 + 23 * v 8 + 3) ≤ 10
                    unfold vGrp
                    rw [vset_off (show 268 + 23 * v 8 + 2 ≠ 268 + 23 * v 8 + 5 by omega), vset_off (show 268 + 23 * v 8 + 2 ≠ 268 + 23 * v 8 + 4 by omega), vset_off (show 268 + 23 * v 8 + 2 ≠ 268 + 23 * v 8 + 3 by omega), vset_at, vset_off (show 268 + 23 * v 8 + 3 ≠ 268 + 23 * v 8 + 5 by omega), vset_off (show 268 + 23 * v 8 + 3 ≠ 268 + 23 * v 8 + 4 by omega), vset_at]
                    have c10 : tN B n (gp7 B n v s).2.2 ≤ 6 := b10.2
                    have c12 : tN B n (gp9 B n v s).2.2 ≤ 4 := b12.2
                    omega
                  · unfold vGrp
                    rw [vset_off (by omega), vset_off (by omega), vset_off (by omega), vset_off (by omega), vset_at]
                    exact b8.2
                refine zj_aload0 (n := 230) rfl dX10_parseGroup_229 ?_
                refine zj_iload1 (n := 231) rfl dX10_parseGroup_230 ?_
                refine zj_callV1 (n := 234) (a' := 0) (b' := 0) rfl dX10_parseGroup_231 zm_X10_360 (by decide) (by decide) rfl (Nat.le_of_ble_eq_true rfl) (Nat.le_of_ble_eq_true rfl) (Nat.le_of_ble_eq_true rfl) (Nat.le_of_ble_eq_true rfl) (jX10_isPlaced (v := vGrp B n v s) hA17v hpq ?_)
                intro M18 u18 b18 hg18 hA18 hb18 hbs hu18
                refine zj_ifB_ne (n := 237) (tgt := 242) rfl dX10_parseGroup_234 (by decide) (fun c234 => ?_) (fun c234 => ?_)
                · obtain ⟨p9, hp9⟩ := hb18 c234
                  refine zj_gen (P := fun M20 => ∃ w, zHf M M20 ∧ zPm M20 n B (gp15 B n v s) ∧ zRA M20 120 w ∧ w 8 = v 8 ∧ ((sEnd B n (gp15 B n v s)).1 = 0 → vset w 8 (v 8 + 1) = vGrpF B n v s)) ⟨_, (hg18.hf hF17), (by rw [g15y hsem (by rw [hp9]; rfl)]; exact hg18.pm hP17), hA18, (by rw [hu18 8 (by omega)]; exact hv8), (fun _ => by unfold vGrpF; rw [hp9])⟩ ?_
                  intro M20 h20
                  obtain ⟨w, hF21, hP21, hA21, hw8, hwV⟩ := h20
                  refine zj_aload0 (n := 243) rfl dX10_parseGroup_242 ?_
                  refine zj_callV0 (n := 246) (a' := 0) (b' := 0) rfl dX10_parseGroup_243 zm_X10_226 (by decide) (by decide) rfl (Nat.le_of_ble_eq_true rfl) (Nat.le_of_ble_eq_true rfl) (Nat.le_of_ble_eq_true rfl) (Nat.le_of_ble_eq_true rfl) (jX10_good hP21 ?_)
                  refine zj_ifB_eq (n := 249) (tgt := 260) rfl dX10_parseGroup_246 (by decide) (fun c246 => ?_) (fun c246 => ?_)
                  · exact zj_return dX10_parseGroup_260 rfl (h M20 w hF21 hP21 hA21 (fun q => absurd (sEndOk q).1 (of_decide_eq_false c246)))
                  · refine zj_aload0 (n := 250) rfl dX10_parseGroup_249 ?_
                    refine zj_getr (n := 253) (q := 120) rfl dX10_parseGroup_250 zf_X10_24 rfl (by decide) (by decide) hA21.now ?_
                    refine zj_bipushN (v := 8) (n := 255) rfl dX10_parseGroup_253 (by decide) ?_
                    refine zj_dup2 (n := 256) rfl dX10_parseGroup_255 ?_
                    refine zj_ialoadN (e := v 8) (n := 257) rfl dX10_parseGroup_256 (by decide) rfl (by rw [show zLen 120 = 698 from rfl]; omega) (by rw [hA21.2.2 8 (by decide), hw8]) ?_
                    refine zj_iconstN_1 (n := 258) rfl dX10_parseGroup_257 ?_
                    refine zj_iaddN (n := 259) rfl dX10_parseGroup_258 ?_
                    refine zj_iastoreN (n := 260) rfl dX10_parseGroup_259 (by decide) rfl (by rw [show zLen 120 = 698 from rfl]; omega) ?_
                    refine zj_return dX10_parseGroup_260 rfl ?_
                    exact h _ _ hF21.put hP21.st hA21.set hwV
                · refine zj_aload0 (n := 238) rfl dX10_parseGroup_237 ?_
                  refine zj_iconstN_5 (n := 239) rfl dX10_parseGroup_238 ?_
                  refine zj_callV1 (n := 242) (a' := 0) (b' := 0) rfl dX10_parseGroup_239 zm_X10_317 (by decide) (by decide) rfl (Nat.le_of_ble_eq_true rfl) (Nat.le_of_ble_eq_true rfl) (Nat.le_of_ble_eq_true rfl) (Nat.le_of_ble_eq_true rfl) (jX10_errs (hg18.pm hP17) (by decide) ?_)
                  intro M19 hG19 hP19
                  refine zj_gen (P := fun M20 => ∃ w, zHf M M20 ∧ zPm M20 n B (gp15 B n v s) ∧ zRA M20 120 w ∧ w 8 = v 8 ∧ ((sEnd B n (gp15 B n v s)).1 = 0 → vset w 8 (v 8 + 1) = vGrpF B n v s)) ⟨_, ((hg18.hf hF17).tr (zHf.of2 hG19)), (by rw [g15f hsem (by rw [c234] at hbs; cases hz : plS (vGrp B n v s) (v 8) (vsh (vGrp B n v s) (v 8)); rfl; rw [hz] at hbs; cases hbs)]; exact hP19), (hA18.gf hG19), (by rw [hu18 8 (by omega)]; exact hv8), (fun q => absurd (sEndOk q).1 (by rw [g15f hsem (by rw [c234] at hbs; cases hz : plS (vGrp B n v s) (v 8) (vsh (vGrp B n v s) (v 8)); rfl; rw [hz] at hbs; cases hbs), sRef_e q14]; simp))⟩ ?_
                  intro M20 h20
                  obtain ⟨w, hF21, hP21, hA21, hw8, hwV⟩ := h20
                  refine zj_aload0 (n := 243) rfl dX10_parseGroup_242 ?_
                  refine zj_callV0 (n := 246) (a' := 0) (b' := 0) rfl dX10_parseGroup_243 zm_X10_226 (by decide) (by decide) rfl (Nat.le_of_ble_eq_true rfl) (Nat.le_of_ble_eq_true rfl) (Nat.le_of_ble_eq_true rfl) (Nat.le_of_ble_eq_true rfl) (jX10_good hP21 ?_)
                  refine zj_ifB_eq (n := 249) (tgt := 260) rfl dX10_parseGroup_246 (by decide) (fun c246 => ?_) (fun c246 => ?_)
                  · exact zj_return dX10_parseGroup_260 rfl (h M20 w hF21 hP21 hA21 (fun q => absurd (sEndOk q).1 (of_decide_eq_false c246)))
                  · refine zj_aload0 (n := 250) rfl dX10_parseGroup_249 ?_
                    refine zj_getr (n := 253) (q := 120) rfl dX10_parseGroup_250 zf_X10_24 rfl (by decide) (by decide) hA21.now ?_
                    refine zj_bipushN (v := 8) (n := 255) rfl dX10_parseGroup_253 (by decide) ?_
                    refine zj_dup2 (n := 256) rfl dX10_parseGroup_255 ?_
                    refine zj_ialoadN (e := v 8) (n := 257) rfl dX10_parseGroup_256 (by decide) rfl (by rw [show zLen 120 = 698 from rfl]; omega) (by rw [hA21.2.2 8 (by decide), hw8]) ?_
                    refine zj_iconstN_1 (n := 258) rfl dX10_parseGroup_257 ?_
                    refine zj_iaddN (n := 259) rfl dX10_parseGroup_258 ?_
                    refine zj_iastoreN (n := 260) rfl dX10_parseGroup_259 (by decide) rfl (by rw [show zLen 120 = 698 from rfl]; omega) ?_
                    refine zj_return dX10_parseGroup_260 rfl ?_
                    exact h _ _ hF21.put hP21.st hA21.set hwV
        · refine zj_aload0 (n := 94) rfl dX10_parseGroup_93 ?_
          refine zj_getr (n := 97) (q := 120) rfl dX10_parseGroup_94 zf_X10_24 rfl (by decide) (by decide) hA5.now ?_
          refine zj_iload2 (n := 98) rfl dX10_parseGroup_97 ?_
          refine zj_iconstN_0 (n := 99) rfl dX10_parseGroup_98 ?_
          refine zj_iaddN (n := 100) rfl dX10_parseGroup_99 ?_
          refine zj_ialoadN (e := x5) (n := 101) rfl dX10_parseGroup_100 (by decide) rfl (by rw [show zLen 120 = 698 from rfl]; omega) (by rw [hA5.2.2 _ (by omega), vset_at]) ?_
          rw [hy5 (of_decide_eq_true c90)]
          refine zj_iconst_m1 (n := 102) rfl dX10_parseGroup_101 ?_
          refine zj_icmpO_ne (n := 105) (tgt := 110) rfl dX10_parseGroup_102 (by decide) (fun m hm => by have := kfind_lt hW (by decide) hm; omega) (fun m102 c102 => ?_) (fun c102 => ?_)
          · refine zj_gen (P := fun M6 => zHf M M6 ∧ zPm M6 n B (gp4e B n v s) ∧ zRA M6 120 (vset (vlet v (268 + 23 * v 8 + 17) B (tS B n e2) (tE B n e2)) (268 + 23 * v 8 + 0) x5)) ⟨hF5, (by unfold gp4e; rw [c102, sErr_eq (show (some m102).isNone = false from rfl)]; exact hP5), hA5⟩ ?_
            intro M6 h6
            obtain ⟨hF6, hP6, hA6⟩ := h6
            refine zj_aload0 (n := 111) rfl dX10_parseGroup_110 ?_
            refine zj_callV0 (n := 114) (a' := 0) (b' := 0) rfl dX10_parseGroup_111 zm_X10_320 (by decide) (by decide) rfl (Nat.le_of_ble_eq_true rfl) (Nat.le_of_ble_eq_true rfl) (Nat.le_of_ble_eq_true rfl) (Nat.le_of_ble_eq_true rfl) (jX10_goOn hP6 ?_)
            intro M7 hG7 hP7
            have hF7 : zHf M M7 := hF6.tr (zHf.of hG7)
            have hA7 := hA6.gf hG7
            change zPm M7 n B (gp4 B n v s) at hP7
            refine zj_aload0 (n := 115) rfl dX10_parseGroup_114 ?_
            refine zj_getr (n := 118) (q := 120) rfl dX10_parseGroup_115 zf_X10_24 rfl (by decide) (by decide) hA7.now ?_
            refine zj_iload2 (n := 119) rfl dX10_parseGroup_118 ?_
            refine zj_iconstN_1 (n := 120) rfl dX10_parseGroup_119 ?_
            refine zj_iaddN (n := 121) rfl dX10_parseGroup_120 ?_
            refine zj_aload0 (n := 122) rfl dX10_parseGroup_121 ?_
            refine zj_ldcwS (i := 18) (n := 125) rfl dX10_parseGroup_122 rfl (by decide) rfl ?_
            refine zj_iconstN_0 (n := 126) rfl dX10_parseGroup_125 ?_
            refine zj_sipushN (v := 9999) (n := 129) rfl dX10_parseGroup_126 (by decide) ?_
            refine zj_callV3 (n := 132) (a' := 0) (b' := 0) rfl dX10_parseGroup_129 zm_X10_355 (by decide) (by decide) rfl (Nat.le_of_ble_eq_true rfl) (Nat.le_of_ble_eq_true rfl) (Nat.le_of_ble_eq_true rfl) (Nat.le_of_ble_eq_true rfl) (jX10_numberAfter hP7 (by decide) (by decide) (by decide) ?_)
            intro M8 x8 hx8b hG8 hP8 hx8
            have hF8 : zHf M M8 := hF7.tr (zHf.of hG8)
            have hA8 := hA7.gf hG8
            change zPm M8 n B (gp6 B n v s) at hP8
            refine zj_iastoreN (n := 133) rfl dX10_parseGroup_132 (by decide) rfl (by rw [show zLen 120 = 698 from rfl]; omega) ?_
            refine zj_gen (P := fun M9 => zHf M M9 ∧ zPm M9 n B (gp6 B n v s) ∧ zRA M9 120 (vset (vset (vlet v (268 + 23 * v 8 + 17) B (tS B n e2) (tE B n e2)) (268 + 23 * v 8 + 0) x5) (268 + 23 * v 8 + 1) x8)) ⟨hF8.put, hP8.st, hA8.set⟩ ?_
            intro M9 h9
            obtain ⟨hF9, hP9, hA9⟩ := h9
            refine zj_aload0 (n := 134) rfl dX10_parseGroup_133 ?_
            refine zj_getr (n := 137) (q := 120) rfl dX10_parseGroup_134 zf_X10_24 rfl (by decide) (by decide) hA9.now ?_
            refine zj_iload2 (n := 138) rfl dX10_parseGroup_137 ?_
            refine zj_iconstN_2 (n := 139) rfl dX10_parseGroup_138 ?_
            refine zj_iaddN (n := 140) rfl dX10_parseGroup_139 ?_
            refine zj_aload0 (n := 141) rfl dX10_parseGroup_140 ?_
            refine zj_ldcwS (i := 19) (n := 144) rfl dX10_parseGroup_141 rfl (by decide) rfl ?_
            refine zj_iconstN_1 (n := 145) rfl dX10_parseGroup_144 ?_
            refine zj_bipushN (v := 6) (n := 147) rfl dX10_parseGroup_145 (by decide) ?_
            refine zj_callV3 (n := 150) (a' := 0) (b' := 0) rfl dX10_parseGroup_147 zm_X10_355 (by decide) (by decide) rfl (Nat.le_of_ble_eq_true rfl) (Nat.le_of_ble_eq_true rfl) (Nat.le_of_ble_eq_true rfl) (Nat.le_of_ble_eq_true rfl) (jX10_numberAfter hP9 (by decide) (by decide) (by decide) ?_)
            intro M10 x10 hx10b hG10 hP10 hx10
            have hF10 : zHf M M10 := hF9.tr (zHf.of hG10)
            have hA10 := hA9.gf hG10
            change zPm M10 n B (gp8 B n v s) at hP10
            refine zj_iastoreN (n := 151) rfl dX10_parseGroup_150 (by decide) rfl (by rw [show zLen 120 = 698 from rfl]; omega) ?_
            refine zj_gen (P := fun M11 => zHf M M11 ∧ zPm M11 n B (gp8 B n v s) ∧ zRA M11 120 (vset (vset (vset (vlet v (268 + 23 * v 8 + 17) B (tS B n e2) (tE B n e2)) (268 + 23 * v 8 + 0) x5) (268 + 23 * v 8 + 1) x8) (268 + 23 * v 8 + 2) x10)) ⟨hF10.put, hP10.st, hA10.set⟩ ?_
            intro M11 h11
            obtain ⟨hF11, hP11, hA11⟩ := h11
            refine zj_aload0 (n := 152) rfl dX10_parseGroup_151 ?_
            refine zj_getr (n := 155) (q := 120) rfl dX10_parseGroup_152 zf_X10_24 rfl (by decide) (by decide) hA11.now ?_
            refine zj_iload2 (n := 156) rfl dX10_parseGroup_155 ?_
            refine zj_iconstN_3 (n := 157) rfl dX10_parseGroup_156 ?_
            refine zj_iaddN (n := 158) rfl dX10_parseGroup_157 ?_
            refine zj_aload0 (n := 159) rfl dX10_parseGroup_158 ?_
            refine zj_ldcwS (i := 20) (n := 162) rfl dX10_parseGroup_159 rfl (by decide) rfl ?_
            refine zj_iconstN_1 (n := 163) rfl dX10_parseGroup_162 ?_
            refine zj_iconstN_4 (n := 164) rfl dX10_parseGroup_163 ?_
            refine zj_callV3 (n := 167) (a' := 0) (b' := 0) rfl dX10_parseGroup_164 zm_X10_355 (by decide) (by decide) rfl (Nat.le_of_ble_eq_true rfl) (Nat.le_of_ble_eq_true rfl) (Nat.le_of_ble_eq_true rfl) (Nat.le_of_ble_eq_true rfl) (jX10_numberAfter hP11 (by decide) (by decide) (by decide) ?_)
            intro M12 x12 hx12b hG12 hP12 hx12
            have hF12 : zHf M M12 := hF11.tr (zHf.of hG12)
            have hA12 := hA11.gf hG12
            change zPm M12 n B (gp10 B n v s) at hP12
            refine zj_iastoreN (n := 168) rfl dX10_parseGroup_167 (by decide) rfl (by rw [show zLen 120 = 698 from rfl]; omega) ?_
            refine zj_gen (P := fun M13 => zHf M M13 ∧ zPm M13 n B (gp10 B n v s) ∧ zRA M13 120 (vset (vset (vset (vset (vlet v (268 + 23 * v 8 + 17) B (tS B n e2) (tE B n e2)) (268 + 23 * v 8 + 0) x5) (268 + 23 * v 8 + 1) x8) (268 + 23 * v 8 + 2) x10) (268 + 23 * v 8 + 3) x12)) ⟨hF12.put, hP12.st, hA12.set⟩ ?_
            intro M13 h13
            obtain ⟨hF13, hP13, hA13⟩ := h13
            refine zj_aload0 (n := 169) rfl dX10_parseGroup_168 ?_
            refine zj_getr (n := 172) (q := 120) rfl dX10_parseGroup_169 zf_X10_24 rfl (by decide) (by decide) hA13.now ?_
            refine zj_iload2 (n := 173) rfl dX10_parseGroup_172 ?_
            refine zj_iconstN_4 (n := 174) rfl dX10_parseGroup_173 ?_
            refine zj_iaddN (n := 175) rfl dX10_parseGroup_174 ?_
            refine zj_aload0 (n := 176) rfl dX10_parseGroup_175 ?_
            refine zj_ldcwS (i := 21) (n := 179) rfl dX10_parseGroup_176 rfl (by decide) rfl ?_
            refine zj_iconstN_1 (n := 180) rfl dX10_parseGroup_179 ?_
            refine zj_bipushN (v := 100) (n := 182) rfl dX10_parseGroup_180 (by decide) ?_
            refine zj_callV3 (n := 185) (a' := 0) (b' := 0) rfl dX10_parseGroup_182 zm_X10_355 (by decide) (by decide) rfl (Nat.le_of_ble_eq_true rfl) (Nat.le_of_ble_eq_true rfl) (Nat.le_of_ble_eq_true rfl) (Nat.le_of_ble_eq_true rfl) (jX10_numberAfter hP13 (by decide) (by decide) (by decide) ?_)
            intro M14 x14 hx14b hG14 hP14 hx14
            have hF14 : zHf M M14 := hF13.tr (zHf.of hG14)
            have hA14 := hA13.gf hG14
            change zPm M14 n B (gp12 B n v s) at hP14
            refine zj_iastoreN (n := 186) rfl dX10_parseGroup_185 (by decide) rfl (by rw [show zLen 120 = 698 from rfl]; omega) ?_
            refine zj_gen (P := fun M15 => zHf M M15 ∧ zPm M15 n B (gp12 B n v s) ∧ zRA M15 120 (vset (vset (vset (vset (vset (vlet v (268 + 23 * v 8 + 17) B (tS B n e2) (tE B n e2)) (268 + 23 * v 8 + 0) x5) (268 + 23 * v 8 + 1) x8) (268 + 23 * v 8 + 2) x10) (268 + 23 * v 8 + 3) x12) (268 + 23 * v 8 + 4) x14)) ⟨hF14.put, hP14.st, hA14.set⟩ ?_
            intro M15 h15
            obtain ⟨hF15, hP15, hA15⟩ := h15
            refine zj_aload0 (n := 187) rfl dX10_parseGroup_186 ?_
            refine zj_getr (n := 190) (q := 120) rfl dX10_parseGroup_187 zf_X10_24 rfl (by decide) (by decide) hA15.now ?_
            refine zj_iload2 (n := 191) rfl dX10_parseGroup_190 ?_
            refine zj_iconstN_5 (n := 192) rfl dX10_parseGroup_191 ?_
            refine zj_iaddN (n := 193) rfl dX10_parseGroup_192 ?_
            refine zj_aload0 (n := 194) rfl dX10_parseGroup_193 ?_
            refine zj_ldcwS (i := 22) (n := 197) rfl dX10_parseGroup_194 rfl (by decide) rfl ?_
            refine zj_iconstN_1 (n := 198) rfl dX10_parseGroup_197 ?_
            refine zj_sipushN (v := 9999) (n := 201) rfl dX10_parseGroup_198 (by decide) ?_
            refine zj_callV3 (n := 204) (a' := 0) (b' := 0) rfl dX10_parseGroup_201 zm_X10_355 (by decide) (by decide) rfl (Nat.le_of_ble_eq_true rfl) (Nat.le_of_ble_eq_true rfl) (Nat.le_of_ble_eq_true rfl) (Nat.le_of_ble_eq_true rfl) (jX10_numberAfter hP15 (by decide) (by decide) (by decide) ?_)
            intro M16 x16 hx16b hG16 hP16 hx16
            have hF16 : zHf M M16 := hF15.tr (zHf.of hG16)
            have hA16 := hA15.gf hG16
            change zPm M16 n B (gp14 B n v s) at hP16
            refine zj_iastoreN (n := 205) rfl dX10_parseGroup_204 (by decide) rfl (by rw [show zLen 120 = 698 from rfl]; omega) ?_
            refine zj_gen (P := fun M17 => zHf M M17 ∧ zPm M17 n B (gp14 B n v s) ∧ zRA M17 120 (vset (vset (vset (vset (vset (vset (vlet v (268 + 23 * v 8 + 17) B (tS B n e2) (tE B n e2)) (268 + 23 * v 8 + 0) x5) (268 + 23 * v 8 + 1) x8) (268 + 23 * v 8 + 2) x10) (268 + 23 * v 8 + 3) x12) (268 + 23 * v 8 + 4) x14) (268 + 23 * v 8 + 5) x16)) ⟨hF16.put, hP16.st, hA16.set⟩ ?_
            intro M17 h17
            obtain ⟨hF17, hP17, hA17⟩ := h17
            obtain ⟨hT17, -, -, -, -, e17, hen17, hK17, he17⟩ := id hP17
            have hts17 := tS_le (B := B) hen17
            have hk17 : tK B n e17 ≤ 3 := sK_le
            refine zj_aload0 (n := 206) rfl dX10_parseGroup_205 ?_
            refine zj_callV0 (n := 209) (a' := 0) (b' := 0) rfl dX10_parseGroup_206 zm_X10_226 (by decide) (by decide) rfl (Nat.le_of_ble_eq_true rfl) (Nat.le_of_ble_eq_true rfl) (Nat.le_of_ble_eq_true rfl) (Nat.le_of_ble_eq_true rfl) (jX10_good hP17 ?_)
            refine zj_ifB_eq (n := 212) (tgt := 242) rfl dX10_parseGroup_209 (by decide) (fun c209 => ?_) (fun c209 => ?_)
            · refine zj_gen (P := fun M20 => ∃ w, zHf M M20 ∧ zPm M20 n B (gp15 B n v s) ∧ zRA M20 120 w ∧ w 8 = v 8 ∧ ((sEnd B n (gp15 B n v s)).1 = 0 → vset w 8 (v 8 + 1) = vGrpF B n v s)) ⟨_, hF17, (by rw [g15n (of_decide_eq_false c209)]; exact hP17), hA17, (by rw [vset_off (by omega), vset_off (by omega), vset_off (by omega), vset_off (by omega), vset_off (by omega), vset_off (by omega), vlet_off (by omega)]), (fun q => absurd (sEndOk q).1 (by rw [g15n (of_decide_eq_false c209)]; exact of_decide_eq_false c209))⟩ ?_
              intro M20 h20
              obtain ⟨w, hF21, hP21, hA21, hw8, hwV⟩ := h20
              refine zj_aload0 (n := 243) rfl dX10_parseGroup_242 ?_
              refine zj_callV0 (n := 246) (a' := 0) (b' := 0) rfl dX10_parseGroup_243 zm_X10_226 (by decide) (by decide) rfl (Nat.le_of_ble_eq_true rfl) (Nat.le_of_ble_eq_true rfl) (Nat.le_of_ble_eq_true rfl) (Nat.le_of_ble_eq_true rfl) (jX10_good hP21 ?_)
              refine zj_ifB_eq (n := 249) (tgt := 260) rfl dX10_parseGroup_246 (by decide) (fun c246 => ?_) (fun c246 => ?_)
              · exact zj_return dX10_parseGroup_260 rfl (h M20 w hF21 hP21 hA21 (fun q => absurd (sEndOk q).1 (of_decide_eq_false c246)))
              · refine zj_aload0 (n := 250) rfl dX10_parseGroup_249 ?_
                refine zj_getr (n := 253) (q := 120) rfl dX10_parseGroup_250 zf_X10_24 rfl (by decide) (by decide) hA21.now ?_
                refine zj_bipushN (v := 8) (n := 255) rfl dX10_parseGroup_253 (by decide) ?_
                refine zj_dup2 (n := 256) rfl dX10_parseGroup_255 ?_
                refine zj_ialoadN (e := v 8) (n := 257) rfl dX10_parseGroup_256 (by decide) rfl (by rw [show zLen 120 = 698 from rfl]; omega) (by rw [hA21.2.2 8 (by decide), hw8]) ?_
                refine zj_iconstN_1 (n := 258) rfl dX10_parseGroup_257 ?_
                refine zj_iaddN (n := 259) rfl dX10_parseGroup_258 ?_
                refine zj_iastoreN (n := 260) rfl dX10_parseGroup_259 (by decide) rfl (by rw [show zLen 120 = 698 from rfl]; omega) ?_
                refine zj_return dX10_parseGroup_260 rfl ?_
                exact h _ _ hF21.put hP21.st hA21.set hwV
            · have q14 := of_decide_eq_true c209
              refine zj_aload0 (n := 213) rfl dX10_parseGroup_212 ?_
              refine zj_getiN (e := tK B n e17) (n := 216) rfl dX10_parseGroup_213 zf_X10_242 rfl (by decide) (by decide) hK17.1 ?_
              refine zj_iconstN_3 (n := 217) rfl dX10_parseGroup_216 ?_
              refine zj_icmpN_ne (n := 220) (tgt := 242) rfl dX10_parseGroup_217 (by decide) (by omega) (by omega) (fun c217 => ?_) (fun c217 => ?_)
              · refine zj_gen (P := fun M20 => ∃ w, zHf M M20 ∧ zPm M20 n B (gp15 B n v s) ∧ zRA M20 120 w ∧ w 8 = v 8 ∧ ((sEnd B n (gp15 B n v s)).1 = 0 → vset w 8 (v 8 + 1) = vGrpF B n v s)) ⟨_, hF17, (by rw [g15s (by unfold sSemi; rw [← he17 q14, beq_false_of_ne c217]; rfl)]; exact hP17), hA17, (by rw [vset_off (by omega), vset_off (by omega), vset_off (by omega), vset_off (by omega), vset_off (by omega), vset_off (by omega), vlet_off (by omega)]), (fun q => absurd (sEndOk q).2 (by rw [g15s (by unfold sSemi; rw [← he17 q14, beq_false_of_ne c217]; rfl)]; unfold sSemi; rw [← he17 q14, beq_false_of_ne c217]; simp))⟩ ?_
                intro M20 h20
                obtain ⟨w, hF21, hP21, hA21, hw8, hwV⟩ := h20
                refine zj_aload0 (n := 243) rfl dX10_parseGroup_242 ?_
                refine zj_callV0 (n := 246) (a' := 0) (b' := 0) rfl dX10_parseGroup_243 zm_X10_226 (by decide) (by decide) rfl (Nat.le_of_ble_eq_true rfl) (Nat.le_of_ble_eq_true rfl) (Nat.le_of_ble_eq_true rfl) (Nat.le_of_ble_eq_true rfl) (jX10_good hP21 ?_)
                refine zj_ifB_eq (n := 249) (tgt := 260) rfl dX10_parseGroup_246 (by decide) (fun c246 => ?_) (fun c246 => ?_)
                · exact zj_return dX10_parseGroup_260 rfl (h M20 w hF21 hP21 hA21 (fun q => absurd (sEndOk q).1 (of_decide_eq_false c246)))
                · refine zj_aload0 (n := 250) rfl dX10_parseGroup_249 ?_
                  refine zj_getr (n := 253) (q := 120) rfl dX10_parseGroup_250 zf_X10_24 rfl (by decide) (by decide) hA21.now ?_
                  refine zj_bipushN (v := 8) (n := 255) rfl dX10_parseGroup_253 (by decide) ?_
                  refine zj_dup2 (n := 256) rfl dX10_parseGroup_255 ?_
                  refine zj_ialoadN (e := v 8) (n := 257) rfl dX10_parseGroup_256 (by decide) rfl (by rw [show zLen 120 = 698 from rfl]; omega) (by rw [hA21.2.2 8 (by decide), hw8]) ?_
                  refine zj_iconstN_1 (n := 258) rfl dX10_parseGroup_257 ?_
                  refine zj_iaddN (n := 259) rfl dX10_parseGroup_258 ?_
                  refine zj_iastoreN (n := 260) rfl dX10_parseGroup_259 (by decide) rfl (by rw [show zLen 120 = 698 from rfl]; omega) ?_
                  refine zj_return dX10_parseGroup_260 rfl ?_
                  exact h _ _ hF21.put hP21.st hA21.set hwV
              · refine zj_aload0 (n := 221) rfl dX10_parseGroup_220 ?_
                refine zj_getiN (e := B (tS B n e17)) (n := 224) rfl dX10_parseGroup_221 zf_X10_253 rfl (by decide) (by decide) (hK17.2.2.2.2 c217) ?_
                have hsn17 : tS B n e17 < n := by
                  by_cases w : tS B n e17 < n
                  · exact w
                  · rw [show tK B n e17 = 0 from sK_0.mpr w] at c217; cases c217
                have hb17 := (hT17.2.2 _ hsn17).1
                refine zj_bipushN (v := 59) (n := 226) rfl dX10_parseGroup_224 (by decide) ?_
                refine zj_icmpN_ne (n := 229) (tgt := 242) rfl dX10_parseGroup_226 (by decide) (by omega) (by omega) (fun c226 => ?_) (fun c226 => ?_)
                · refine zj_gen (P := fun M20 => ∃ w, zHf M M20 ∧ zPm M20 n B (gp15 B n v s) ∧ zRA M20 120 w ∧ w 8 = v 8 ∧ ((sEnd B n (gp15 B n v s)).1 = 0 → vset w 8 (v 8 + 1) = vGrpF B n v s)) ⟨_, hF17, (by rw [g15s (by unfold sSemi; rw [← he17 q14, beq_false_of_ne c226, Bool.and_false])]; exact hP17), hA17, (by rw [vset_off (by omega), vset_off (by omega), vset_off (by omega), vset_off (by omega), vset_off (by omega), vset_off (by omega), vlet_off (by omega)]), (fun q => absurd (sEndOk q).2 (by rw [g15s (by unfold sSemi; rw [← he17 q14, beq_false_of_ne c226, Bool.and_false])]; unfold sSemi; rw [← he17 q14, beq_false_of_ne c226]; simp))⟩ ?_
                  intro M20 h20
                  obtain ⟨w, hF21, hP21, hA21, hw8, hwV⟩ := h20
                  refine zj_aload0 (n := 243) rfl dX10_parseGroup_242 ?_
                  refine zj_callV0 (n := 246) (a' := 0) (b' := 0) rfl dX10_parseGroup_243 zm_X10_226 (by decide) (by decide) rfl (Nat.le_of_ble_eq_true rfl) (Nat.le_of_ble_eq_true rfl) (Nat.le_of_ble_eq_true rfl) (Nat.le_of_ble_eq_true rfl) (jX10_good hP21 ?_)
                  refine zj_ifB_eq (n := 249) (tgt := 260) rfl dX10_parseGroup_246 (by decide) (fun c246 => ?_) (fun c246 => ?_)
                  · exact zj_return dX10_parseGroup_260 rfl (h M20 w hF21 hP21 hA21 (fun q => absurd (sEndOk q).1 (of_decide_eq_false c246)))
                  · refine zj_aload0 (n := 250) rfl dX10_parseGroup_249 ?_
                    refine zj_getr (n := 253) (q := 120) rfl dX10_parseGroup_250 zf_X10_24 rfl (by decide) (by decide) hA21.now ?_
                    refine zj_bipushN (v := 8) (n := 255) rfl dX10_parseGroup_253 (by decide) ?_
                    refine zj_dup2 (n := 256) rfl dX10_parseGroup_255 ?_
                    refine zj_ialoadN (e := v 8) (n := 257) rfl dX10_parseGroup_256 (by decide) rfl (by rw [show zLen 120 = 698 from rfl]; omega) (by rw [hA21.2.2 8 (by decide), hw8]) ?_
                    refine zj_iconstN_1 (n := 258) rfl dX10_parseGroup_257 ?_
                    refine zj_iaddN (n := 259) rfl dX10_parseGroup_258 ?_
                    refine zj_iastoreN (n := 260) rfl dX10_parseGroup_259 (by decide) rfl (by rw [show zLen 120 = 698 from rfl]; omega) ?_
                    refine zj_return dX10_parseGroup_260 rfl ?_
                    exact h _ _ hF21.put hP21.st hA21.set hwV
                · have hsem : sSemi B n (gp14 B n v s).2.2 = true := by unfold sSemi; rw [← he17 q14, c217, c226]; rfl
                  have q13 := (sNum_ok q14).1
                  have q12 := (sTake_ok q13).1
                  have q11 := (sNum_ok q12).1
                  have q10 := (sTake_ok q11).1
                  have q9 := (sNum_ok q10).1
                  have q8 := (sTake_ok q9).1
                  have q7 := (sNum_ok q8).1
                  have q6 := (sTake_ok q7).1
                  have q5 := (sNum_ok q6).1
                  have q4 := (sTake_ok q5).1
                  have q4e := (sErr_ok (by decide)).mp (sNext_ok.mp q4)
                  have q3 := ((sErr_ok (by decide)).mp q4e.1).1
                  have q2 := sNext_ok.mp (sTake_ok q3).1
                  have r2 := he2 q2
                  have r5 := hy5 q4e.1
                  have r8 := hx8 q6
                  have r10 := hx10 q8
                  have r12 := hx12 q10
                  have r14 := hx14 q12
                  have r16 := hx16 q14
                  have b8 := (sNum_ok q6).2.2
                  have b10 := (sNum_ok q8).2.2
                  have b12 := (sNum_ok q10).2.2
                  have b14 := (sNum_ok q12).2.2
                  have b16 := (sNum_ok q14).2.2
                  have eV : vset (vset (vset (vset (vset (vset (vlet v (268 + 23 * v 8 + 17) B (tS B n e2) (tE B n e2)) (268 + 23 * v 8 + 0) x5) (268 + 23 * v 8 + 1) x8) (268 + 23 * v 8 + 2) x10) (268 + 23 * v 8 + 3) x12) (268 + 23 * v 8 + 4) x14) (268 + 23 * v 8 + 5) x16 = vGrp B n v s := by
                    subst r2
                    have e5 : (gpt B n v s).getD 0 = x5 := by
                      cases q : gpt B n v s with
                      | none => have := q4e.2; rw [q] at this; cases this
                      | some t => exact (hz5 q4e.1 t q).symm
                    unfold vGrp
                    rw [e5, r8, r10, r12, r14, r16]
                    rfl
                  have hv8 : vGrp B n v s 8 = v 8 := by rw [← eV]; rw [vset_off (by omega), vset_off (by omega), vset_off (by omega), vset_off (by omega), vset_off (by omega), vset_off (by omega), vlet_off (by omega)]
                  have hA17v : zRA M17 120 (vGrp B n v s) := eV ▸ hA17
                  have hpq : zPq (vGrp B n v s) (v 8) := by
                    have hag : ∀ j, zAc v j → vGrp B n v s j = v j := fun j hj => by
                      unfold zAc at hj
                      rw [← eV]
                      rw [vset_off (by omega), vset_off (by omega), vset_off (by omega), vset_off (by omega), vset_off (by omega), vset_off (by omega), vlet_off (by omega)]
                    refine ⟨hW.ag hag, hv8, hlt, ?_, ?_⟩
                    · show vGrp B n v s (268 + 23 * v 8 + 2) + vGrp B n v s (268 + 23 * v 8 + 3) ≤ 10
                      unfold vGrp
                      rw [vset_off (show 268 + 23 * v 8 + 2 ≠ 268 + 23 * v 8 + 5 by omega), vset_off (show 268 + 23 * v 8 + 2 ≠ 268 + 23 * v 8 + 4 by omega), vset_off (show 268 + 23 * v 8 + 2 ≠ 268 + 23 * v 8 + 3 by omega), vset_at, vset_off (show 268 + 23 * v 8 + 3 ≠ 268 + 23 * v 8 + 5 by omega), vset_off (show 268 + 23 * v 8 + 3 ≠ 268 + 23 * v 8 + 4 by omega), vset_at]
                      have c10 : tN B n (gp7 B n v s).2.2 ≤ 6 := b10.2
                      have c12 : tN B n (gp9 B n v s).2.2 ≤ 4 := b12.2
                      omega
                    · unfold vGrp
                      rw [vset_off (by omega), vset_off (by omega), vset_off (by omega), vset_off (by omega), vset_at]
                      exact b8.2
                  refine zj_aload0 (n := 230) rfl dX10_parseGroup_229 ?_
                  refine zj_iload1 (n := 231) rfl dX10_parseGroup_230 ?_
                  refine zj_callV1 (n := 234) (a' := 0) (b' := 0) rfl dX10_parseGroup_231 zm_X10_360 (by decide) (by decide) rfl (Nat.le_of_ble_eq_true rfl) (Nat.le_of_ble_eq_true rfl) (Nat.le_of_ble_eq_true rfl) (Nat.le_of_ble_eq_true rfl) (jX10_isPlaced (v := vGrp B n v s) hA17v hpq ?_)
                  intro M18 u18 b18 hg18 hA18 hb18 hbs hu18
                  refine zj_ifB_ne (n := 237) (tgt := 242) rfl dX10_parseGroup_234 (by decide) (fun c234 => ?_) (fun c234 => ?_)
                  · obtain ⟨p9, hp9⟩ := hb18 c234
                    refine zj_gen (P := fun M20 => ∃ w, zHf M M20 ∧ zPm M20 n B (gp15 B n v s) ∧ zRA M20 120 w ∧ w 8 = v 8 ∧ ((sEnd B n (gp15 B n v s)).1 = 0 → vset w 8 (v 8 + 1) = vGrpF B n v s)) ⟨_, (hg18.hf hF17), (by rw [g15y hsem (by rw [hp9]; rfl)]; exact hg18.pm hP17), hA18, (by rw [hu18 8 (by omega)]; exact hv8), (fun _ => by unfold vGrpF; rw [hp9])⟩ ?_
                    intro M20 h20
                    obtain ⟨w, hF21, hP21, hA21, hw8, hwV⟩ := h20
                    refine zj_aload0 (n := 243) rfl dX10_parseGroup_242 ?_
                    refine zj_callV0 (n := 246) (a' := 0) (b' := 0) rfl dX10_parseGroup_243 zm_X10_226 (by decide) (by decide) rfl (Nat.le_of_ble_eq_true rfl) (Nat.le_of_ble_eq_true rfl) (Nat.le_of_ble_eq_true rfl) (Nat.le_of_ble_eq_true rfl) (jX10_good hP21 ?_)
                    refine zj_ifB_eq (n := 249) (tgt := 260) rfl dX10_parseGroup_246 (by decide) (fun c246 => ?_) (fun c246 => ?_)
                    · exact zj_return dX10_parseGroup_260 rfl (h M20 w hF21 hP21 hA21 (fun q => absurd (sEndOk q).1 (of_decide_eq_false c246)))
                    · refine zj_aload0 (n := 250) rfl dX10_parseGroup_249 ?_
                      refine zj_getr (n := 253) (q := 120) rfl dX10_parseGroup_250 zf_X10_24 rfl (by decide) (by decide) hA21.now ?_
                      refine zj_bipushN (v := 8) (n := 255) rfl dX10_parseGroup_253 (by decide) ?_
                      refine zj_dup2 (n := 256) rfl dX10_parseGroup_255 ?_
                      refine zj_ialoadN (e := v 8) (n := 257) rfl dX10_parseGroup_256 (by decide) rfl (by rw [show zLen 120 = 698 from rfl]; omega) (by rw [hA21.2.2 8 (by decide), hw8]) ?_
                      refine zj_iconstN_1 (n := 258) rfl dX10_parseGroup_257 ?_
                      refine zj_iaddN (n := 259) rfl dX10_parseGroup_258 ?_
                      refine zj_iastoreN (n := 260) rfl dX10_parseGroup_259 (by decide) rfl (by rw [show zLen 120 = 698 from rfl]; omega) ?_
                      refine zj_return dX10_parseGroup_260 rfl ?_
                      exact h _ _ hF21.put hP21.st hA21.set hwV
                  · refine zj_aload0 (n := 238) rfl dX10_parseGroup_237 ?_
                    refine zj_iconstN_5 (n := 239) rfl dX10_parseGroup_238 ?_
                    refine zj_callV1 (n := 242) (a' := 0) (b' := 0) rfl dX10_parseGroup_239 zm_X10_317 (by decide) (by decide) rfl (Nat.le_of_ble_eq_true rfl) (Nat.le_of_ble_eq_true rfl) (Nat.le_of_ble_eq_true rfl) (Nat.le_of_ble_eq_true rfl) (jX10_errs (hg18.pm hP17) (by decide) ?_)
                    intro M19 hG19 hP19
                    refine zj_gen (P := fun M20 => ∃ w, zHf M M20 ∧ zPm M20 n B (gp15 B n v s) ∧ zRA M20 120 w ∧ w 8 = v 8 ∧ ((sEnd B n (gp15 B n v s)).1 = 0 → vset w 8 (v 8 + 1) = vGrpF B n v s)) ⟨_, ((hg18.hf hF17).tr (zHf.of2 hG19)), (by rw [g15f hsem (by rw [c234] at hbs; cases hz : plS (vGrp B n v s) (v 8) (vsh (vGrp B n v s) (v 8)); rfl; rw [hz] at hbs; cases hbs)]; exact hP19), (hA18.gf hG19), (by rw [hu18 8 (by omega)]; exact hv8), (fun q => absurd (sEndOk q).1 (by rw [g15f hsem (by rw [c234] at hbs; cases hz : plS (vGrp B n v s) (v 8) (vsh (vGrp B n v s) (v 8)); rfl; rw [hz] at hbs; cases hbs), sRef_e q14]; simp))⟩ ?_
                    intro M20 h20
                    obtain ⟨w, hF21, hP21, hA21, hw8, hwV⟩ := h20
                    refine zj_aload0 (n := 243) rfl dX10_parseGroup_242 ?_
                    refine zj_callV0 (n := 246) (a' := 0) (b' := 0) rfl dX10_parseGroup_243 zm_X10_226 (by decide) (by decide) rfl (Nat.le_of_ble_eq_true rfl) (Nat.le_of_ble_eq_true rfl) (Nat.le_of_ble_eq_true rfl) (Nat.le_of_ble_eq_true rfl) (jX10_good hP21 ?_)
                    refine zj_ifB_eq (n := 249) (tgt := 260) rfl dX10_parseGroup_246 (by decide) (fun c246 => ?_) (fun c246 => ?_)
                    · exact zj_return dX10_parseGroup_260 rfl (h M20 w hF21 hP21 hA21 (fun q => absurd (sEndOk q).1 (of_decide_eq_false c246)))
                    · refine zj_aload0 (n := 250) rfl dX10_parseGroup_249 ?_
                      refine zj_getr (n := 253) (q := 120) rfl dX10_parseGroup_250 zf_X10_24 rfl (by decide) (by decide) hA21.now ?_
                      refine zj_bipushN (v := 8) (n := 255) rfl dX10_parseGroup_253 (by decide) ?_
                      refine zj_dup2 (n := 256) rfl dX10_parseGroup_255 ?_
                      refine zj_ialoadN (e := v 8) (n := 257) rfl dX10_parseGroup_256 (by decide) rfl (by rw [show zLen 120 = 698 from rfl]; omega) (by rw [hA21.2.2 8 (by decide), hw8]) ?_
                      refine zj_iconstN_1 (n := 258) rfl dX10_parseGroup_257 ?_
                      refine zj_iaddN (n := 259) rfl dX10_parseGroup_258 ?_
                      refine zj_iastoreN (n := 260) rfl dX10_parseGroup_259 (by decide) rfl (by rw [show zLen 120 = 698 from rfl]; omega) ?_
                      refine zj_return dX10_parseGroup_260 rfl ?_
                      exact h _ _ hF21.put hP21.st hA21.set hwV
          · refine zj_aload0 (n := 106) rfl dX10_parseGroup_105 ?_
            refine zj_iconstN_3 (n := 107) rfl dX10_parseGroup_106 ?_
            refine zj_callV1 (n := 110) (a' := 0) (b' := 0) rfl dX10_parseGroup_107 zm_X10_317 (by decide) (by decide) rfl (Nat.le_of_ble_eq_true rfl) (Nat.le_of_ble_eq_true rfl) (Nat.le_of_ble_eq_true rfl) (Nat.le_of_ble_eq_true rfl) (jX10_errs hP5 (by decide) ?_)
            intro M20 hG20 hP20
            refine zj_gen (P := fun M6 => zHf M M6 ∧ zPm M6 n B (gp4e B n v s) ∧ zRA M6 120 (vset (vlet v (268 + 23 * v 8 + 17) B (tS B n e2) (tE B n e2)) (268 + 23 * v 8 + 0) x5)) ⟨(hF5.tr (zHf.of2 hG20)), (by unfold gp4e; rw [c102]; exact hP20), (hA5.gf hG20)⟩ ?_
            intro M6 h6
            obtain ⟨hF6, hP6, hA6⟩ := h6
            refine zj_aload0 (n := 111) rfl dX10_parseGroup_110 ?_
            refine zj_callV0 (n := 114) (a' := 0) (b' := 0) rfl dX10_parseGroup_111 zm_X10_320 (by decide) (by decide) rfl (Nat.le_of_ble_eq_true rfl) (Nat.le_of_ble_eq_true rfl) (Nat.le_of_ble_eq_true rfl) (Nat.le_of_ble_eq_true rfl) (jX10_goOn hP6 ?_)
            intro M7 hG7 hP7
            have hF7 : zHf M M7 := hF6.tr (zHf.of hG7)
            have hA7 := hA6.gf hG7
            change zPm M7 n B (gp4 B n v s) at hP7
            refine zj_aload0 (n := 115) rfl dX10_parseGroup_114 ?_
            refine zj_getr (n := 118) (q := 120) rfl dX10_parseGroup_115 zf_X10_24 rfl (by decide) (by decide) hA7.now ?_
            refine zj_iload2 (n := 119) rfl dX10_parseGroup_118 ?_
            refine zj_iconstN_1 (n := 120) rfl dX10_parseGroup_119 ?_
            refine zj_iaddN (n := 121) rfl dX10_parseGroup_120 ?_
            refine zj_aload0 (n := 122) rfl dX10_parseGroup_121 ?_
            refine zj_ldcwS (i := 18) (n := 125) rfl dX10_parseGroup_122 rfl (by decide) rfl ?_
            refine zj_iconstN_0 (n := 126) rfl dX10_parseGroup_125 ?_
            refine zj_sipushN (v := 9999) (n := 129) rfl dX10_parseGroup_126 (by decide) ?_
            refine zj_callV3 (n := 132) (a' := 0) (b' := 0) rfl dX10_parseGroup_129 zm_X10_355 (by decide) (by decide) rfl (Nat.le_of_ble_eq_true rfl) (Nat.le_of_ble_eq_true rfl) (Nat.le_of_ble_eq_true rfl) (Nat.le_of_ble_eq_true rfl) (jX10_numberAfter hP7 (by decide) (by decide) (by decide) ?_)
            intro M8 x8 hx8b hG8 hP8 hx8
            have hF8 : zHf M M8 := hF7.tr (zHf.of hG8)
            have hA8 := hA7.gf hG8
            change zPm M8 n B (gp6 B n v s) at hP8
            refine zj_iastoreN (n := 133) rfl dX10_parseGroup_132 (by decide) rfl (by rw [show zLen 120 = 698 from rfl]; omega) ?_
            refine zj_gen (P := fun M9 => zHf M M9 ∧ zPm M9 n B (gp6 B n v s) ∧ zRA M9 120 (vset (vset (vlet v (268 + 23 * v 8 + 17) B (tS B n e2) (tE B n e2)) (268 + 23 * v 8 + 0) x5) (268 + 23 * v 8 + 1) x8)) ⟨hF8.put, hP8.st, hA8.set⟩ ?_
            intro M9 h9
            obtain ⟨hF9, hP9, hA9⟩ := h9
            refine zj_aload0 (n := 134) rfl dX10_parseGroup_133 ?_
            refine zj_getr (n := 137) (q := 120) rfl dX10_parseGroup_134 zf_X10_24 rfl (by decide) (by decide) hA9.now ?_
            refine zj_iload2 (n := 138) rfl dX10_parseGroup_137 ?_
            refine zj_iconstN_2 (n := 139) rfl dX10_parseGroup_138 ?_
            refine zj_iaddN (n := 140) rfl dX10_parseGroup_139 ?_
            refine zj_aload0 (n := 141) rfl dX10_parseGroup_140 ?_
            refine zj_ldcwS (i := 19) (n := 144) rfl dX10_parseGroup_141 rfl (by decide) rfl ?_
            refine zj_iconstN_1 (n := 145) rfl dX10_parseGroup_144 ?_
            refine zj_bipushN (v := 6) (n := 147) rfl dX10_parseGroup_145 (by decide) ?_
            refine zj_callV3 (n := 150) (a' := 0) (b' := 0) rfl dX10_parseGroup_147 zm_X10_355 (by decide) (by decide) rfl (Nat.le_of_ble_eq_true rfl) (Nat.le_of_ble_eq_true rfl) (Nat.le_of_ble_eq_true rfl) (Nat.le_of_ble_eq_true rfl) (jX10_numberAfter hP9 (by decide) (by decide) (by decide) ?_)
            intro M10 x10 hx10b hG10 hP10 hx10
            have hF10 : zHf M M10 := hF9.tr (zHf.of hG10)
            have hA10 := hA9.gf hG10
            change zPm M10 n B (gp8 B n v s) at hP10
            refine zj_iastoreN (n := 151) rfl dX10_parseGroup_150 (by decide) rfl (by rw [show zLen 120 = 698 from rfl]; omega) ?_
            refine zj_gen (P := fun M11 => zHf M M11 ∧ zPm M11 n B (gp8 B n v s) ∧ zRA M11 120 (vset (vset (vset (vlet v (268 + 23 * v 8 + 17) B (tS B n e2) (tE B n e2)) (268 + 23 * v 8 + 0) x5) (268 + 23 * v 8 + 1) x8) (268 + 23 * v 8 + 2) x10)) ⟨hF10.put, hP10.st, hA10.set⟩ ?_
            intro M11 h11
            obtain ⟨hF11, hP11, hA11⟩ := h11
            refine zj_aload0 (n := 152) rfl dX10_parseGroup_151 ?_
            refine zj_getr (n := 155) (q := 120) rfl dX10_parseGroup_152 zf_X10_24 rfl (by decide) (by decide) hA11.now ?_
            refine zj_iload2 (n := 156) rfl dX10_parseGroup_155 ?_
            refine zj_iconstN_3 (n := 157) rfl dX10_parseGroup_156 ?_
            refine zj_iaddN (n := 158) rfl dX10_parseGroup_157 ?_
            refine zj_aload0 (n := 159) rfl dX10_parseGroup_158 ?_
            refine zj_ldcwS (i := 20) (n := 162) rfl dX10_parseGroup_159 rfl (by decide) rfl ?_
            refine zj_iconstN_1 (n := 163) rfl dX10_parseGroup_162 ?_
            refine zj_iconstN_4 (n := 164) rfl dX10_parseGroup_163 ?_
            refine zj_callV3 (n := 167) (a' := 0) (b' := 0) rfl dX10_parseGroup_164 zm_X10_355 (by decide) (by decide) rfl (Nat.le_of_ble_eq_true rfl) (Nat.le_of_ble_eq_true rfl) (Nat.le_of_ble_eq_true rfl) (Nat.le_of_ble_eq_true rfl) (jX10_numberAfter hP11 (by decide) (by decide) (by decide) ?_)
            intro M12 x12 hx12b hG12 hP12 hx12
            have hF12 : zHf M M12 := hF11.tr (zHf.of hG12)
            have hA12 := hA11.gf hG12
            change zPm M12 n B (gp10 B n v s) at hP12
            refine zj_iastoreN (n := 168) rfl dX10_parseGroup_167 (by decide) rfl (by rw [show zLen 120 = 698 from rfl]; omega) ?_
            refine zj_gen (P := fun M13 => zHf M M13 ∧ zPm M13 n B (gp10 B n v s) ∧ zRA M13 120 (vset (vset (vset (vset (vlet v (268 + 23 * v 8 + 17) B (tS B n e2) (tE B n e2)) (268 + 23 * v 8 + 0) x5) (268 + 23 * v 8 + 1) x8) (268 + 23 * v 8 + 2) x10) (268 + 23 * v 8 + 3) x12)) ⟨hF12.put, hP12.st, hA12.set⟩ ?_
            intro M13 h13
            obtain ⟨hF13, hP13, hA13⟩ := h13
            refine zj_aload0 (n := 169) rfl dX10_parseGroup_168 ?_
            refine zj_getr (n := 172) (q := 120) rfl dX10_parseGroup_169 zf_X10_24 rfl (by decide) (by decide) hA13.now ?_
            refine zj_iload2 (n := 173) rfl dX10_parseGroup_172 ?_
            refine zj_iconstN_4 (n := 174) rfl dX10_parseGroup_173 ?_
            refine zj_iaddN (n := 175) rfl dX10_parseGroup_174 ?_
            refine zj_aload0 (n := 176) rfl dX10_parseGroup_175 ?_
            refine zj_ldcwS (i := 21) (n := 179) rfl dX10_parseGroup_176 rfl (by decide) rfl ?_
            refine zj_iconstN_1 (n := 180) rfl dX10_parseGroup_179 ?_
            refine zj_bipushN (v := 100) (n := 182) rfl dX10_parseGroup_180 (by decide) ?_
            refine zj_callV3 (n := 185) (a' := 0) (b' := 0) rfl dX10_parseGroup_182 zm_X10_355 (by decide) (by decide) rfl (Nat.le_of_ble_eq_true rfl) (Nat.le_of_ble_eq_true rfl) (Nat.le_of_ble_eq_true rfl) (Nat.le_of_ble_eq_true rfl) (jX10_numberAfter hP13 (by decide) (by decide) (by decide) ?_)
            intro M14 x14 hx14b hG14 hP14 hx14
            have hF14 : zHf M M14 := hF13.tr (zHf.of hG14)
            have hA14 := hA13.gf hG14
            change zPm M14 n B (gp12 B n v s) at hP14
            refine zj_iastoreN (n := 186) rfl dX10_parseGroup_185 (by decide) rfl (by rw [show zLen 120 = 698 from rfl]; omega) ?_
            refine zj_gen (P := fun M15 => zHf M M15 ∧ zPm M15 n B (gp12 B n v s) ∧ zRA M15 120 (vset (vset (vset (vset (vset (vlet v (268 + 23 * v 8 + 17) B (tS B n e2) (tE B n e2)) (268 + 23 * v 8 + 0) x5) (268 + 23 * v 8 + 1) x8) (268 + 23 * v 8 + 2) x10) (268 + 23 * v 8 + 3) x12) (268 + 23 * v 8 + 4) x14)) ⟨hF14.put, hP14.st, hA14.set⟩ ?_
            intro M15 h15
            obtain ⟨hF15, hP15, hA15⟩ := h15
            refine zj_aload0 (n := 187) rfl dX10_parseGroup_186 ?_
            refine zj_getr (n := 190) (q := 120) rfl dX10_parseGroup_187 zf_X10_24 rfl (by decide) (by decide) hA15.now ?_
            refine zj_iload2 (n := 191) rfl dX10_parseGroup_190 ?_
            refine zj_iconstN_5 (n := 192) rfl dX10_parseGroup_191 ?_
            refine zj_iaddN (n := 193) rfl dX10_parseGroup_192 ?_
            refine zj_aload0 (n := 194) rfl dX10_parseGroup_193 ?_
            refine zj_ldcwS (i := 22) (n := 197) rfl dX10_parseGroup_194 rfl (by decide) rfl ?_
            refine zj_iconstN_1 (n := 198) rfl dX10_parseGroup_197 ?_
            refine zj_sipushN (v := 9999) (n := 201) rfl dX10_parseGroup_198 (by decide) ?_
            refine zj_callV3 (n := 204) (a' := 0) (b' := 0) rfl dX10_parseGroup_201 zm_X10_355 (by decide) (by decide) rfl (Nat.le_of_ble_eq_true rfl) (Nat.le_of_ble_eq_true rfl) (Nat.le_of_ble_eq_true rfl) (Nat.le_of_ble_eq_true rfl) (jX10_numberAfter hP15 (by decide) (by decide) (by decide) ?_)
            intro M16 x16 hx16b hG16 hP16 hx16
            have hF16 : zHf M M16 := hF15.tr (zHf.of hG16)
            have hA16 := hA15.gf hG16
            change zPm M16 n B (gp14 B n v s) at hP16
            refine zj_iastoreN (n := 205) rfl dX10_parseGroup_204 (by decide) rfl (by rw [show zLen 120 = 698 from rfl]; omega) ?_
            refine zj_gen (P := fun M17 => zHf M M17 ∧ zPm M17 n B (gp14 B n v s) ∧ zRA M17 120 (vset (vset (vset (vset (vset (vset (vlet v (268 + 23 * v 8 + 17) B (tS B n e2) (tE B n e2)) (268 + 23 * v 8 + 0) x5) (268 + 23 * v 8 + 1) x8) (268 + 23 * v 8 + 2) x10) (268 + 23 * v 8 + 3) x12) (268 + 23 * v 8 + 4) x14) (268 + 23 * v 8 + 5) x16)) ⟨hF16.put, hP16.st, hA16.set⟩ ?_
            intro M17 h17
            obtain ⟨hF17, hP17, hA17⟩ := h17
            obtain ⟨hT17, -, -, -, -, e17, hen17, hK17, he17⟩ := id hP17
            have hts17 := tS_le (B := B) hen17
            have hk17 : tK B n e17 ≤ 3 := sK_le
            refine zj_aload0 (n := 206) rfl dX10_parseGroup_205 ?_
            refine zj_callV0 (n := 209) (a' := 0) (b' := 0) rfl dX10_parseGroup_206 zm_X10_226 (by decide) (by decide) rfl (Nat.le_of_ble_eq_true rfl) (Nat.le_of_ble_eq_true rfl) (Nat.le_of_ble_eq_true rfl) (Nat.le_of_ble_eq_true rfl) (jX10_good hP17 ?_)
            refine zj_ifB_eq (n := 212) (tgt := 242) rfl dX10_parseGroup_209 (by decide) (fun c209 => ?_) (fun c209 => ?_)
            · refine zj_gen (P := fun M20 => ∃ w, zHf M M20 ∧ zPm M20 n B (gp15 B n v s) ∧ zRA M20 120 w ∧ w 8 = v 8 ∧ ((sEnd B n (gp15 B n v s)).1 = 0 → vset w 8 (v 8 + 1) = vGrpF B n v s)) ⟨_, hF17, (by rw [g15n (of_decide_eq_false c209)]; exact hP17), hA17, (by rw [vset_off (by omega), vset_off (by omega), vset_off (by omega), vset_off (by omega), vset_off (by omega), vset_off (by omega), vlet_off (by omega)]), (fun q => absurd (sEndOk q).1 (by rw [g15n (of_decide_eq_false c209)]; exact of_decide_eq_false c209))⟩ ?_
              intro M20 h20
              obtain ⟨w, hF21, hP21, hA21, hw8, hwV⟩ := h20
              refine zj_aload0 (n := 243) rfl dX10_parseGroup_242 ?_
              refine zj_callV0 (n := 246) (a' := 0) (b' := 0) rfl dX10_parseGroup_243 zm_X10_226 (by decide) (by decide) rfl (Nat.le_of_ble_eq_true rfl) (Nat.le_of_ble_eq_true rfl) (Nat.le_of_ble_eq_true rfl) (Nat.le_of_ble_eq_true rfl) (jX10_good hP21 ?_)
              refine zj_ifB_eq (n := 249) (tgt := 260) rfl dX10_parseGroup_246 (by decide) (fun c246 => ?_) (fun c246 => ?_)
              · exact zj_return dX10_parseGroup_260 rfl (h M20 w hF21 hP21 hA21 (fun q => absurd (sEndOk q).1 (of_decide_eq_false c246)))
              · refine zj_aload0 (n := 250) rfl dX10_parseGroup_249 ?_
                refine zj_getr (n := 253) (q := 120) rfl dX10_parseGroup_250 zf_X10_24 rfl (by decide) (by decide) hA21.now ?_
                refine zj_bipushN (v := 8) (n := 255) rfl dX10_parseGroup_253 (by decide) ?_
                refine zj_dup2 (n := 256) rfl dX10_parseGroup_255 ?_
                refine zj_ialoadN (e := v 8) (n := 257) rfl dX10_parseGroup_256 (by decide) rfl (by rw [show zLen 120 = 698 from rfl]; omega) (by rw [hA21.2.2 8 (by decide), hw8]) ?_
                refine zj_iconstN_1 (n := 258) rfl dX10_parseGroup_257 ?_
                refine zj_iaddN (n := 259) rfl dX10_parseGroup_258 ?_
                refine zj_iastoreN (n := 260) rfl dX10_parseGroup_259 (by decide) rfl (by rw [show zLen 120 = 698 from rfl]; omega) ?_
                refine zj_return dX10_parseGroup_260 rfl ?_
                exact h _ _ hF21.put hP21.st hA21.set hwV
            · have q14 := of_decide_eq_true c209
              refine zj_aload0 (n := 213) rfl dX10_parseGroup_212 ?_
              refine zj_getiN (e := tK B n e17) (n := 216) rfl dX10_parseGroup_213 zf_X10_242 rfl (by decide) (by decide) hK17.1 ?_
              refine zj_iconstN_3 (n := 217) rfl dX10_parseGroup_216 ?_
              refine zj_icmpN_ne (n := 220) (tgt := 242) rfl dX10_parseGroup_217 (by decide) (by omega) (by omega) (fun c217 => ?_) (fun c217 => ?_)
              · refine zj_gen (P := fun M20 => ∃ w, zHf M M20 ∧ zPm M20 n B (gp15 B n v s) ∧ zRA M20 120 w ∧ w 8 = v 8 ∧ ((sEnd B n (gp15 B n v s)).1 = 0 → vset w 8 (v 8 + 1) = vGrpF B n v s)) ⟨_, hF17, (by rw [g15s (by unfold sSemi; rw [← he17 q14, beq_false_of_ne c217]; rfl)]; exact hP17), hA17, (by rw [vset_off (by omega), vset_off (by omega), vset_off (by omega), vset_off (by omega), vset_off (by omega), vset_off (by omega), vlet_off (by omega)]), (fun q => absurd (sEndOk q).2 (by rw [g15s (by unfold sSemi; rw [← he17 q14, beq_false_of_ne c217]; rfl)]; unfold sSemi; rw [← he17 q14, beq_false_of_ne c217]; simp))⟩ ?_
                intro M20 h20
                obtain ⟨w, hF21, hP21, hA21, hw8, hwV⟩ := h20
                refine zj_aload0 (n := 243) rfl dX10_parseGroup_242 ?_
                refine zj_callV0 (n := 246) (a' := 0) (b' := 0) rfl dX10_parseGroup_243 zm_X10_226 (by decide) (by decide) rfl (Nat.le_of_ble_eq_true rfl) (Nat.le_of_ble_eq_true rfl) (Nat.le_of_ble_eq_true rfl) (Nat.le_of_ble_eq_true rfl) (jX10_good hP21 ?_)
                refine zj_ifB_eq (n := 249) (tgt := 260) rfl dX10_parseGroup_246 (by decide) (fun c246 => ?_) (fun c246 => ?_)
                · exact zj_return dX10_parseGroup_260 rfl (h M20 w hF21 hP21 hA21 (fun q => absurd (sEndOk q).1 (of_decide_eq_false c246)))
                · refine zj_aload0 (n := 250) rfl dX10_parseGroup_249 ?_
                  refine zj_getr (n := 253) (q := 120) rfl dX10_parseGroup_250 zf_X10_24 rfl (by decide) (by decide) hA21.now ?_
                  refine zj_bipushN (v := 8) (n := 255) rfl dX10_parseGroup_253 (by decide) ?_
                  refine zj_dup2 (n := 256) rfl dX10_parseGroup_255 ?_
                  refine zj_ialoadN (e := v 8) (n := 257) rfl dX10_parseGroup_256 (by decide) rfl (by rw [show zLen 120 = 698 from rfl]; omega) (by rw [hA21.2.2 8 (by decide), hw8]) ?_
                  refine zj_iconstN_1 (n := 258) rfl dX10_parseGroup_257 ?_
                  refine zj_iaddN (n := 259) rfl dX10_parseGroup_258 ?_
                  refine zj_iastoreN (n := 260) rfl dX10_parseGroup_259 (by decide) rfl (by rw [show zLen 120 = 698 from rfl]; omega) ?_
                  refine zj_return dX10_parseGroup_260 rfl ?_
                  exact h _ _ hF21.put hP21.st hA21.set hwV
              · refine zj_aload0 (n := 221) rfl dX10_parseGroup_220 ?_
                refine zj_getiN (e := B (tS B n e17)) (n := 224) rfl dX10_parseGroup_221 zf_X10_253 rfl (by decide) (by decide) (hK17.2.2.2.2 c217) ?_
                have hsn17 : tS B n e17 < n := by
                  by_cases w : tS B n e17 < n
                  · exact w
                  · rw [show tK B n e17 = 0 from sK_0.mpr w] at c217; cases c217
                have hb17 := (hT17.2.2 _ hsn17).1
                refine zj_bipushN (v := 59) (n := 226) rfl dX10_parseGroup_224 (by decide) ?_
                refine zj_icmpN_ne (n := 229) (tgt := 242) rfl dX10_parseGroup_226 (by decide) (by omega) (by omega) (fun c226 => ?_) (fun c226 => ?_)
                · refine zj_gen (P := fun M20 => ∃ w, zHf M M20 ∧ zPm M20 n B (gp15 B n v s) ∧ zRA M20 120 w ∧ w 8 = v 8 ∧ ((sEnd B n (gp15 B n v s)).1 = 0 → vset w 8 (v 8 + 1) = vGrpF B n v s)) ⟨_, hF17, (by rw [g15s (by unfold sSemi; rw [← he17 q14, beq_false_of_ne c226, Bool.and_false])]; exact hP17), hA17, (by rw [vset_off (by omega), vset_off (by omega), vset_off (by omega), vset_off (by omega), vset_off (by omega), vset_off (by omega), vlet_off (by omega)]), (fun q => absurd (sEndOk q).2 (by rw [g15s (by unfold sSemi; rw [← he17 q14, beq_false_of_ne c226, Bool.and_false])]; unfold sSemi; rw [← he17 q14, beq_false_of_ne c226]; simp))⟩ ?_
                  intro M20 h20
                  obtain ⟨w, hF21, hP21, hA21, hw8, hwV⟩ := h20
                  refine zj_aload0 (n := 243) rfl dX10_parseGroup_242 ?_
                  refine zj_callV0 (n := 246) (a' := 0) (b' := 0) rfl dX10_parseGroup_243 zm_X10_226 (by decide) (by decide) rfl (Nat.le_of_ble_eq_true rfl) (Nat.le_of_ble_eq_true rfl) (Nat.le_of_ble_eq_true rfl) (Nat.le_of_ble_eq_true rfl) (jX10_good hP21 ?_)
                  refine zj_ifB_eq (n := 249) (tgt := 260) rfl dX10_parseGroup_246 (by decide) (fun c246 => ?_) (fun c246 => ?_)
                  · exact zj_return dX10_parseGroup_260 rfl (h M20 w hF21 hP21 hA21 (fun q => absurd (sEndOk q).1 (of_decide_eq_false c246)))
                  · refine zj_aload0 (n := 250) rfl dX10_parseGroup_249 ?_
                    refine zj_getr (n := 253) (q := 120) rfl dX10_parseGroup_250 zf_X10_24 rfl (by decide) (by decide) hA21.now ?_
                    refine zj_bipushN (v := 8) (n := 255) rfl dX10_parseGroup_253 (by decide) ?_
                    refine zj_dup2 (n := 256) rfl dX10_parseGroup_255 ?_
                    refine zj_ialoadN (e := v 8) (n := 257) rfl dX10_parseGroup_256 (by decide) rfl (by rw [show zLen 120 = 698 from rfl]; omega) (by rw [hA21.2.2 8 (by decide), hw8]) ?_
                    refine zj_iconstN_1 (n := 258) rfl dX10_parseGroup_257 ?_
                    refine zj_iaddN (n := 259) rfl dX10_parseGroup_258 ?_
                    refine zj_iastoreN (n := 260) rfl dX10_parseGroup_259 (by decide) rfl (by rw [show zLen 120 = 698 from rfl]; omega) ?_
                    refine zj_return dX10_parseGroup_260 rfl ?_
                    exact h _ _ hF21.put hP21.st hA21.set hwV
                · have hsem : sSemi B n (gp14 B n v s).2.2 = true := by unfold sSemi; rw [← he17 q14, c217, c226]; rfl
                  have q13 := (sNum_ok q14).1
                  have q12 := (sTake_ok q13).1
                  have q11 := (sNum_ok q12).1
                  have q10 := (sTake_ok q11).1
                  have q9 := (sNum_ok q10).1
                  have q8 := (sTake_ok q9).1
                  have q7 := (sNum_ok q8).1
                  have q6 := (sTake_ok q7).1
                  have q5 := (sNum_ok q6).1
                  have q4 := (sTake_ok q5).1
                  have q4e := (sErr_ok (by decide)).mp (sNext_ok.mp q4)
                  have q3 := ((sErr_ok (by decide)).mp q4e.1).1
                  have q2 := sNext_ok.mp (sTake_ok q3).1
                  have r2 := he2 q2
                  have r5 := hy5 q4e.1
                  have r8 := hx8 q6
                  have r10 := hx10 q8
                  have r12 := hx12 q10
                  have r14 := hx14 q12
                  have r16 := hx16 q14
                  have b8 := (sNum_ok q6).2.2
                  have b10 := (sNum_ok q8).2.2
                  have b12 := (sNum_ok q10).2.2
                  have b14 := (sNum_ok q12).2.2
                  have b16 := (sNum_ok q14).2.2
                  have eV : vset (vset (vset (vset (vset (vset (vlet v (268 + 23 * v 8 + 17) B (tS B n e2) (tE B n e2)) (268 + 23 * v 8 + 0) x5) (268 + 23 * v 8 + 1) x8) (268 + 23 * v 8 + 2) x10) (268 + 23 * v 8 + 3) x12) (268 + 23 * v 8 + 4) x14) (268 + 23 * v 8 + 5) x16 = vGrp B n v s := by
                    subst r2
                    have e5 : (gpt B n v s).getD 0 = x5 := by
                      cases q : gpt B n v s with
                      | none => have := q4e.2; rw [q] at this; cases this
                      | some t => exact (hz5 q4e.1 t q).symm
                    unfold vGrp
                    rw [e5, r8, r10, r12, r14, r16]
                    rfl
                  have hv8 : vGrp B n v s 8 = v 8 := by rw [← eV]; rw [vset_off (by omega), vset_off (by omega), vset_off (by omega), vset_off (by omega), vset_off (by omega), vset_off (by omega), vlet_off (by omega)]
                  have hA17v : zRA M17 120 (vGrp B n v s) := eV ▸ hA17
                  have hpq : zPq (vGrp B n v s) (v 8) := by
                    have hag : ∀ j, zAc v j → vGrp B n v s j = v j := fun j hj => by
                      unfold zAc at hj
                      rw [← eV]
                      rw [vset_off (by omega), vset_off (by omega), vset_off (by omega), vset_off (by omega), vset_off (by omega), vset_off (by omega), vlet_off (by omega)]
                    refine ⟨hW.ag hag, hv8, hlt, ?_, ?_⟩
                    · show vGrp B n v s (268 + 23 * v 8 + 2) + vGrp B n v s (268 + 23 * v 8 + 3) ≤ 10
                      unfold vGrp
                      rw [vset_off (show 268 + 23 * v 8 + 2 ≠ 268 + 23 * v 8 + 5 by omega), vset_off (show 268 + 23 * v 8 + 2 ≠ 268 + 23 * v 8 + 4 by omega), vset_off (show 268 + 23 * v 8 + 2 ≠ 268 + 23 * v 8 + 3 by omega), vset_at, vset_off (show 268 + 23 * v 8 + 3 ≠ 268 + 23 * v 8 + 5 by omega), vset_off (show 268 + 23 * v 8 + 3 ≠ 268 + 23 * v 8 + 4 by omega), vset_at]
                      have c10 : tN B n (gp7 B n v s).2.2 ≤ 6 := b10.2
                      have c12 : tN B n (gp9 B n v s).2.2 ≤ 4 := b12.2
                      omega
                    · unfold vGrp
                      rw [vset_off (by omega), vset_off (by omega), vset_off (by omega), vset_off (by omega), vset_at]
                      exact b8.2
                  refine zj_aload0 (n := 230) rfl dX10_parseGroup_229 ?_
                  refine zj_iload1 (n := 231) rfl dX10_parseGroup_230 ?_
                  refine zj_callV1 (n := 234) (a' := 0) (b' := 0) rfl dX10_parseGroup_231 zm_X10_360 (by decide) (by decide) rfl (Nat.le_of_ble_eq_true rfl) (Nat.le_of_ble_eq_true rfl) (Nat.le_of_ble_eq_true rfl) (Nat.le_of_ble_eq_true rfl) (jX10_isPlaced (v := vGrp B n v s) hA17v hpq ?_)
                  intro M18 u18 b18 hg18 hA18 hb18 hbs hu18
                  refine zj_ifB_ne (n := 237) (tgt := 242) rfl dX10_parseGroup_234 (by decide) (fun c234 => ?_) (fun c234 => ?_)
                  · obtain ⟨p9, hp9⟩ := hb18 c234
                    refine zj_gen (P := fun M20 => ∃ w, zHf M M20 ∧ zPm M20 n B (gp15 B n v s) ∧ zRA M20 120 w ∧ w 8 = v 8 ∧ ((sEnd B n (gp15 B n v s)).1 = 0 → vset w 8 (v 8 + 1) = vGrpF B n v s)) ⟨_, (hg18.hf hF17), (by rw [g15y hsem (by rw [hp9]; rfl)]; exact hg18.pm hP17), hA18, (by rw [hu18 8 (by omega)]; exact hv8), (fun _ => by unfold vGrpF; rw [hp9])⟩ ?_
                    intro M20 h20
                    obtain ⟨w, hF21, hP21, hA21, hw8, hwV⟩ := h20
                    refine zj_aload0 (n := 243) rfl dX10_parseGroup_242 ?_
                    refine zj_callV0 (n := 246) (a' := 0) (b' := 0) rfl dX10_parseGroup_243 zm_X10_226 (by decide) (by decide) rfl (Nat.le_of_ble_eq_true rfl) (Nat.le_of_ble_eq_true rfl) (Nat.le_of_ble_eq_true rfl) (Nat.le_of_ble_eq_true rfl) (jX10_good hP21 ?_)
                    refine zj_ifB_eq (n := 249) (tgt := 260) rfl dX10_parseGroup_246 (by decide) (fun c246 => ?_) (fun c246 => ?_)
                    · exact zj_return dX10_parseGroup_260 rfl (h M20 w hF21 hP21 hA21 (fun q => absurd (sEndOk q).1 (of_decide_eq_false c246)))
                    · refine zj_aload0 (n := 250) rfl dX10_parseGroup_249 ?_
                      refine zj_getr (n := 253) (q := 120) rfl dX10_parseGroup_250 zf_X10_24 rfl (by decide) (by decide) hA21.now ?_
                      refine zj_bipushN (v := 8) (n := 255) rfl dX10_parseGroup_253 (by decide) ?_
                      refine zj_dup2 (n := 256) rfl dX10_parseGroup_255 ?_
                      refine zj_ialoadN (e := v 8) (n := 257) rfl dX10_parseGroup_256 (by decide) rfl (by rw [show zLen 120 = 698 from rfl]; omega) (by rw [hA21.2.2 8 (by decide), hw8]) ?_
                      refine zj_iconstN_1 (n := 258) rfl dX10_parseGroup_257 ?_
                      refine zj_iaddN (n := 259) rfl dX10_parseGroup_258 ?_
                      refine zj_iastoreN (n := 260) rfl dX10_parseGroup_259 (by decide) rfl (by rw [show zLen 120 = 698 from rfl]; omega) ?_
                      refine zj_return dX10_parseGroup_260 rfl ?_
                      exact h _ _ hF21.put hP21.st hA21.set hwV
                  · refine zj_aload0 (n := 238) rfl dX10_parseGroup_237 ?_
                    refine zj_iconstN_5 (n := 239) rfl dX10_parseGroup_238 ?_
                    refine zj_callV1 (n := 242) (a' := 0) (b' := 0) rfl dX10_parseGroup_239 zm_X10_317 (by decide) (by decide) rfl (Nat.le_of_ble_eq_true rfl) (Nat.le_of_ble_eq_true rfl) (Nat.le_of_ble_eq_true rfl) (Nat.le_of_ble_eq_true rfl) (jX10_errs (hg18.pm hP17) (by decide) ?_)
                    intro M19 hG19 hP19
                    refine zj_gen (P := fun M20 => ∃ w, zHf M M20 ∧ zPm M20 n B (gp15 B n v s) ∧ zRA M20 120 w ∧ w 8 = v 8 ∧ ((sEnd B n (gp15 B n v s)).1 = 0 → vset w 8 (v 8 + 1) = vGrpF B n v s)) ⟨_, ((hg18.hf hF17).tr (zHf.of2 hG19)), (by rw [g15f hsem (by rw [c234] at hbs; cases hz : plS (vGrp B n v s) (v 8) (vsh (vGrp B n v s) (v 8)); rfl; rw [hz] at hbs; cases hbs)]; exact hP19), (hA18.gf hG19), (by rw [hu18 8 (by omega)]; exact hv8), (fun q => absurd (sEndOk q).1 (by rw [g15f hsem (by rw [c234] at hbs; cases hz : plS (vGrp B n v s) (v 8) (vsh (vGrp B n v s) (v 8)); rfl; rw [hz] at hbs; cases hbs), sRef_e q14]; simp))⟩ ?_
                    intro M20 h20
                    obtain ⟨w, hF21, hP21, hA21, hw8, hwV⟩ := h20
                    refine zj_aload0 (n := 243) rfl dX10_parseGroup_242 ?_
                    refine zj_callV0 (n := 246) (a' := 0) (b' := 0) rfl dX10_parseGroup_243 zm_X10_226 (by decide) (by decide) rfl (Nat.le_of_ble_eq_true rfl) (Nat.le_of_ble_eq_true rfl) (Nat.le_of_ble_eq_true rfl) (Nat.le_of_ble_eq_true rfl) (jX10_good hP21 ?_)
                    refine zj_ifB_eq (n := 249) (tgt := 260) rfl dX10_parseGroup_246 (by decide) (fun c246 => ?_) (fun c246 => ?_)
                    · exact zj_return dX10_parseGroup_260 rfl (h M20 w hF21 hP21 hA21 (fun q => absurd (sEndOk q).1 (of_decide_eq_false c246)))
                    · refine zj_aload0 (n := 250) rfl dX10_parseGroup_249 ?_
                      refine zj_getr (n := 253) (q := 120) rfl dX10_parseGroup_250 zf_X10_24 rfl (by decide) (by decide) hA21.now ?_
                      refine zj_bipushN (v := 8) (n := 255) rfl dX10_parseGroup_253 (by decide) ?_
                      refine zj_dup2 (n := 256) rfl dX10_parseGroup_255 ?_
                      refine zj_ialoadN (e := v 8) (n := 257) rfl dX10_parseGroup_256 (by decide) rfl (by rw [show zLen 120 = 698 from rfl]; omega) (by rw [hA21.2.2 8 (by decide), hw8]) ?_
                      refine zj_iconstN_1 (n := 258) rfl dX10_parseGroup_257 ?_
                      refine zj_iaddN (n := 259) rfl dX10_parseGroup_258 ?_
                      refine zj_iastoreN (n := 260) rfl dX10_parseGroup_259 (by decide) rfl (by rw [show zLen 120 = 698 from rfl]; omega) ?_
                      refine zj_return dX10_parseGroup_260 rfl ?_
                      exact h _ _ hF21.put hP21.st hA21.set hwV
      · have hsb := (sErr_ok (by decide)).mp (of_decide_eq_true c73)
        have eS4 : gp4c B n v s = gp3 B n v s := sErr_eq hsb.2
        obtain ⟨hT4, -, -, -, -, e4, hen4, hK4, he4⟩ := id hP4
        have ee4 : e4 = (gp3 B n v s).2.2 := by have := he4 (of_decide_eq_true c73); rw [eS4] at this; exact this
        have hkd : tK B n (gp3 B n v s).2.2 = 1 := by have q := hsb.2; unfold sBadN at q; simp only [Bool.or_eq_false_iff, Bool.not_eq_false', beq_iff_eq] at q; exact q.1.1
        have hts4 := tS_le (B := B) hen4
        have hte4 := tE_le (B := B) hen4
        rw [ee4] at hK4 hts4 hte4
        refine zj_aload0 (n := 77) rfl dX10_parseGroup_76 ?_
        refine zj_iconstN_1 (n := 78) rfl dX10_parseGroup_77 ?_
        refine zj_callV1 (n := 81) (a' := 0) (b' := 0) rfl dX10_parseGroup_78 zm_X10_343 (by decide) (by decide) rfl (Nat.le_of_ble_eq_true rfl) (Nat.le_of_ble_eq_true rfl) (Nat.le_of_ble_eq_true rfl) (Nat.le_of_ble_eq_true rfl) (jX10_kindNamed (f := tS B n (gp3 B n v s).2.2) (t := tE B n (gp3 B n v s).2.2) hA4 (hW.ag (fun j hj => by unfold zAc at hj; rw [vlet_off (by omega)])) (hN.ag (fun j hj => by unfold zAc at hj; rw [vlet_off (by omega)])) (by decide) hT4.2.2 hT4.1 hK4.2.1 hK4.2.2.1 (by omega) (by omega) (fun i hi => tLet hkd (by omega)) ?_)
        rw [kfind_ag (v := v) (by decide) (fun j hj => by unfold zAc at hj; rw [vlet_off (by omega)])]
        refine zj_goto (tgt := 85) dX10_parseGroup_81 (by decide) ?_
        obtain ⟨x5, hx5, hy5, hz5⟩ : ∃ x5, nI x5 = zo (gpt B n v s) ∧ ((gp4c B n v s).1 = 0 → nI x5 = zo (gpt B n v s)) ∧ ((gp4c B n v s).1 = 0 → ∀ t, gpt B n v s = some t → x5 = t) := by
          cases q : gpt B n v s with
          | none => exact ⟨4294967295, rfl, fun _ => rfl, fun _ t w => by cases w⟩
          | some t => exact ⟨t, rfl, fun _ => rfl, fun _ t9 w => by cases w; rfl⟩
        rw [show zo (kfind v 1 B (tS B n (gp3 B n v s).2.2) (tE B n (gp3 B n v s).2.2)) = nI x5 from hx5.symm]
        refine zj_iastoreN (n := 86) rfl dX10_parseGroup_85 (by decide) rfl (by rw [show zLen 120 = 698 from rfl]; omega) ?_
        refine zj_gen (P := fun M5 => zHf M M5 ∧ zPm M5 n B (gp4c B n v s) ∧ zRA M5 120 (vset (vlet v (268 + 23 * v 8 + 17) B (tS B n e2) (tE B n e2)) (268 + 23 * v 8 + 0) x5)) ⟨hF4.put, hP4.st, hA4.set⟩ ?_
        intro M5 h5
        obtain ⟨hF5, hP5, hA5⟩ := h5
        refine zj_aload0 (n := 87) rfl dX10_parseGroup_86 ?_
        refine zj_callV0 (n := 90) (a' := 0) (b' := 0) rfl dX10_parseGroup_87 zm_X10_226 (by decide) (by decide) rfl (Nat.le_of_ble_eq_true rfl) (Nat.le_of_ble_eq_true rfl) (Nat.le_of_ble_eq_true rfl) (Nat.le_of_ble_eq_true rfl) (jX10_good hP5 ?_)
        refine zj_ifB_eq (n := 93) (tgt := 110) rfl dX10_parseGroup_90 (by decide) (fun c90 => ?_) (fun c90 => ?_)
        · refine zj_gen (P := fun M6 => zHf M M6 ∧ zPm M6 n B (gp4e B n v s) ∧ zRA M6 120 (vset (vlet v (268 + 23 * v 8 + 17) B (tS B n e2) (tE B n e2)) (268 + 23 * v 8 + 0) x5)) ⟨hF5, (by unfold gp4e; rw [sErr_no (of_decide_eq_false c90)]; exact hP5), hA5⟩ ?_
          intro M6 h6
          obtain ⟨hF6, hP6, hA6⟩ := h6
          refine zj_aload0 (n := 111) rfl dX10_parseGroup_110 ?_
          refine zj_callV0 (n := 114) (a' := 0) (b' := 0) rfl dX10_parseGroup_111 zm_X10_320 (by decide) (by decide) rfl (Nat.le_of_ble_eq_true rfl) (Nat.le_of_ble_eq_true rfl) (Nat.le_of_ble_eq_true rfl) (Nat.le_of_ble_eq_true rfl) (jX10_goOn hP6 ?_)
          intro M7 hG7 hP7
          have hF7 : zHf M M7 := hF6.tr (zHf.of hG7)
          have hA7 := hA6.gf hG7
          change zPm M7 n B (gp4 B n v s) at hP7
          refine zj_aload0 (n := 115) rfl dX10_parseGroup_114 ?_
          refine zj_getr (n := 118) (q := 120) rfl dX10_parseGroup_115 zf_X10_24 rfl (by decide) (by decide) hA7.now ?_
          refine zj_iload2 (n := 119) rfl dX10_parseGroup_118 ?_
          refine zj_iconstN_1 (n := 120) rfl dX10_parseGroup_119 ?_
          refine zj_iaddN (n := 121) rfl dX10_parseGroup_120 ?_
          refine zj_aload0 (n := 122) rfl dX10_parseGroup_121 ?_
          refine zj_ldcwS (i := 18) (n := 125) rfl dX10_parseGroup_122 rfl (by decide) rfl ?_
          refine zj_iconstN_0 (n := 126) rfl dX10_parseGroup_125 ?_
          refine zj_sipushN (v := 9999) (n := 129) rfl dX10_parseGroup_126 (by decide) ?_
          refine zj_callV3 (n := 132) (a' := 0) (b' := 0) rfl dX10_parseGroup_129 zm_X10_355 (by decide) (by decide) rfl (Nat.le_of_ble_eq_true rfl) (Nat.le_of_ble_eq_true rfl) (Nat.le_of_ble_eq_true rfl) (Nat.le_of_ble_eq_true rfl) (jX10_numberAfter hP7 (by decide) (by decide) (by decide) ?_)
          intro M8 x8 hx8b hG8 hP8 hx8
          have hF8 : zHf M M8 := hF7.tr (zHf.of hG8)
          have hA8 := hA7.gf hG8
          change zPm M8 n B (gp6 B n v s) at hP8
          refine zj_iastoreN (n := 133) rfl dX10_parseGroup_132 (by decide) rfl (by rw [show zLen 120 = 698 from rfl]; omega) ?_
          refine zj_gen (P := fun M9 => zHf M M9 ∧ zPm M9 n B (gp6 B n v s) ∧ zRA M9 120 (vset (vset (vlet v (268 + 23 * v 8 + 17) B (tS B n e2) (tE B n e2)) (268 + 23 * v 8 + 0) x5) (268 + 23 * v 8 + 1) x8)) ⟨hF8.put, hP8.st, hA8.set⟩ ?_
          intro M9 h9
          obtain ⟨hF9, hP9, hA9⟩ := h9
          refine zj_aload0 (n := 134) rfl dX10_parseGroup_133 ?_
          refine zj_getr (n := 137) (q := 120) rfl dX10_parseGroup_134 zf_X10_24 rfl (by decide) (by decide) hA9.now ?_
          refine zj_iload2 (n := 138) rfl dX10_parseGroup_137 ?_
          refine zj_iconstN_2 (n := 139) rfl dX10_parseGroup_138 ?_
          refine zj_iaddN (n := 140) rfl dX10_parseGroup_139 ?_
          refine zj_aload0 (n := 141) rfl dX10_parseGroup_140 ?_
          refine zj_ldcwS (i := 19) (n := 144) rfl dX10_parseGroup_141 rfl (by decide) rfl ?_
          refine zj_iconstN_1 (n := 145) rfl dX10_parseGroup_144 ?_
          refine zj_bipushN (v := 6) (n := 147) rfl dX10_parseGroup_145 (by decide) ?_
          refine zj_callV3 (n := 150) (a' := 0) (b' := 0) rfl dX10_parseGroup_147 zm_X10_355 (by decide) (by decide) rfl (Nat.le_of_ble_eq_true rfl) (Nat.le_of_ble_eq_true rfl) (Nat.le_of_ble_eq_true rfl) (Nat.le_of_ble_eq_true rfl) (jX10_numberAfter hP9 (by decide) (by decide) (by decide) ?_)
          intro M10 x10 hx10b hG10 hP10 hx10
          have hF10 : zHf M M10 := hF9.tr (zHf.of hG10)
          have hA10 := hA9.gf hG10
          change zPm M10 n B (gp8 B n v s) at hP10
          refine zj_iastoreN (n := 151) rfl dX10_parseGroup_150 (by decide) rfl (by rw [show zLen 120 = 698 from rfl]; omega) ?_
          refine zj_gen (P := fun M11 => zHf M M11 ∧ zPm M11 n B (gp8 B n v s) ∧ zRA M11 120 (vset (vset (vset (vlet v (268 + 23 * v 8 + 17) B (tS B n e2) (tE B n e2)) (268 + 23 * v 8 + 0) x5) (268 + 23 * v 8 + 1) x8) (268 + 23 * v 8 + 2) x10)) ⟨hF10.put, hP10.st, hA10.set⟩ ?_
          intro M11 h11
          obtain ⟨hF11, hP11, hA11⟩ := h11
          refine zj_aload0 (n := 152) rfl dX10_parseGroup_151 ?_
          refine zj_getr (n := 155) (q := 120) rfl dX10_parseGroup_152 zf_X10_24 rfl (by decide) (by decide) hA11.now ?_
          refine zj_iload2 (n := 156) rfl dX10_parseGroup_155 ?_
          refine zj_iconstN_3 (n := 157) rfl dX10_parseGroup_156 ?_
          refine zj_iaddN (n := 158) rfl dX10_parseGroup_157 ?_
          refine zj_aload0 (n := 159) rfl dX10_parseGroup_158 ?_
          refine zj_ldcwS (i := 20) (n := 162) rfl dX10_parseGroup_159 rfl (by decide) rfl ?_
          refine zj_iconstN_1 (n := 163) rfl dX10_parseGroup_162 ?_
          refine zj_iconstN_4 (n := 164) rfl dX10_parseGroup_163 ?_
          refine zj_callV3 (n := 167) (a' := 0) (b' := 0) rfl dX10_parseGroup_164 zm_X10_355 (by decide) (by decide) rfl (Nat.le_of_ble_eq_true rfl) (Nat.le_of_ble_eq_true rfl) (Nat.le_of_ble_eq_true rfl) (Nat.le_of_ble_eq_true rfl) (jX10_numberAfter hP11 (by decide) (by decide) (by decide) ?_)
          intro M12 x12 hx12b hG12 hP12 hx12
          have hF12 : zHf M M12 := hF11.tr (zHf.of hG12)
          have hA12 := hA11.gf hG12
          change zPm M12 n B (gp10 B n v s) at hP12
          refine zj_iastoreN (n := 168) rfl dX10_parseGroup_167 (by decide) rfl (by rw [show zLen 120 = 698 from rfl]; omega) ?_
          refine zj_gen (P := fun M13 => zHf M M13 ∧ zPm M13 n B (gp10 B n v s) ∧ zRA M13 120 (vset (vset (vset (vset (vlet v (268 + 23 * v 8 + 17) B (tS B n e2) (tE B n e2)) (268 + 23 * v 8 + 0) x5) (268 + 23 * v 8 + 1) x8) (268 + 23 * v 8 + 2) x10) (268 + 23 * v 8 + 3) x12)) ⟨hF12.put, hP12.st, hA12.set⟩ ?_
          intro M13 h13
          obtain ⟨hF13, hP13, hA13⟩ := h13
          refine zj_aload0 (n := 169) rfl dX10_parseGroup_168 ?_
          refine zj_getr (n := 172) (q := 120) rfl dX10_parseGroup_169 zf_X10_24 rfl (by decide) (by decide) hA13.now ?_
          refine zj_iload2 (n := 173) rfl dX10_parseGroup_172 ?_
          refine zj_iconstN_4 (n := 174) rfl dX10_parseGroup_173 ?_
          refine zj_iaddN (n := 175) rfl dX10_parseGroup_174 ?_
          refine zj_aload0 (n := 176) rfl dX10_parseGroup_175 ?_
          refine zj_ldcwS (i := 21) (n := 179) rfl dX10_parseGroup_176 rfl (by decide) rfl ?_
          refine zj_iconstN_1 (n := 180) rfl dX10_parseGroup_179 ?_
          refine zj_bipushN (v := 100) (n := 182) rfl dX10_parseGroup_180 (by decide) ?_
          refine zj_callV3 (n := 185) (a' := 0) (b' := 0) rfl dX10_parseGroup_182 zm_X10_355 (by decide) (by decide) rfl (Nat.le_of_ble_eq_true rfl) (Nat.le_of_ble_eq_true rfl) (Nat.le_of_ble_eq_true rfl) (Nat.le_of_ble_eq_true rfl) (jX10_numberAfter hP13 (by decide) (by decide) (by decide) ?_)
          intro M14 x14 hx14b hG14 hP14 hx14
          have hF14 : zHf M M14 := hF13.tr (zHf.of hG14)
          have hA14 := hA13.gf hG14
          change zPm M14 n B (gp12 B n v s) at hP14
          refine zj_iastoreN (n := 186) rfl dX10_parseGroup_185 (by decide) rfl (by rw [show zLen 120 = 698 from rfl]; omega) ?_
          refine zj_gen (P := fun M15 => zHf M M15 ∧ zPm M15 n B (gp12 B n v s) ∧ zRA M15 120 (vset (vset (vset (vset (vset (vlet v (268 + 23 * v 8 + 17) B (tS B n e2) (tE B n e2)) (268 + 23 * v 8 + 0) x5) (268 + 23 * v 8 + 1) x8) (268 + 23 * v 8 + 2) x10) (268 + 23 * v 8 + 3) x12) (268 + 23 * v 8 + 4) x14)) ⟨hF14.put, hP14.st, hA14.set⟩ ?_
          intro M15 h15
          obtain ⟨hF15, hP15, hA15⟩ := h15
          refine zj_aload0 (n := 187) rfl dX10_parseGroup_186 ?_
          refine zj_getr (n := 190) (q := 120) rfl dX10_parseGroup_187 zf_X10_24 rfl (by decide) (by decide) hA15.now ?_
          refine zj_iload2 (n := 191) rfl dX10_parseGroup_190 ?_
          refine zj_iconstN_5 (n := 192) rfl dX10_parseGroup_191 ?_
          refine zj_iaddN (n := 193) rfl dX10_parseGroup_192 ?_
          refine zj_aload0 (n := 194) rfl dX10_parseGroup_193 ?_
          refine zj_ldcwS (i := 22) (n := 197) rfl dX10_parseGroup_194 rfl (by decide) rfl ?_
          refine zj_iconstN_1 (n := 198) rfl dX10_parseGroup_197 ?_
          refine zj_sipushN (v := 9999) (n := 201) rfl dX10_parseGroup_198 (by decide) ?_
          refine zj_callV3 (n := 204) (a' := 0) (b' := 0) rfl dX10_parseGroup_201 zm_X10_355 (by decide) (by decide) rfl (Nat.le_of_ble_eq_true rfl) (Nat.le_of_ble_eq_true rfl) (Nat.le_of_ble_eq_true rfl) (Nat.le_of_ble_eq_true rfl) (jX10_numberAfter hP15 (by decide) (by decide) (by decide) ?_)
          intro M16 x16 hx16b hG16 hP16 hx16
          have hF16 : zHf M M16 := hF15.tr (zHf.of hG16)
          have hA16 := hA15.gf hG16
          change zPm M16 n B (gp14 B n v s) at hP16
          refine zj_iastoreN (n := 205) rfl dX10_parseGroup_204 (by decide) rfl (by rw [show zLen 120 = 698 from rfl]; omega) ?_
          refine zj_gen (P := fun M17 => zHf M M17 ∧ zPm M17 n B (gp14 B n v s) ∧ zRA M17 120 (vset (vset (vset (vset (vset (vset (vlet v (268 + 23 * v 8 + 17) B (tS B n e2) (tE B n e2)) (268 + 23 * v 8 + 0) x5) (268 + 23 * v 8 + 1) x8) (268 + 23 * v 8 + 2) x10) (268 + 23 * v 8 + 3) x12) (268 + 23 * v 8 + 4) x14) (268 + 23 * v 8 + 5) x16)) ⟨hF16.put, hP16.st, hA16.set⟩ ?_
          intro M17 h17
          obtain ⟨hF17, hP17, hA17⟩ := h17
          obtain ⟨hT17, -, -, -, -, e17, hen17, hK17, he17⟩ := id hP17
          have hts17 := tS_le (B := B) hen17
          have hk17 : tK B n e17 ≤ 3 := sK_le
          refine zj_aload0 (n := 206) rfl dX10_parseGroup_205 ?_
          refine zj_callV0 (n := 209) (a' := 0) (b' := 0) rfl dX10_parseGroup_206 zm_X10_226 (by decide) (by decide) rfl (Nat.le_of_ble_eq_true rfl) (Nat.le_of_ble_eq_true rfl) (Nat.le_of_ble_eq_true rfl) (Nat.le_of_ble_eq_true rfl) (jX10_good hP17 ?_)
          refine zj_ifB_eq (n := 212) (tgt := 242) rfl dX10_parseGroup_209 (by decide) (fun c209 => ?_) (fun c209 => ?_)
          · refine zj_gen (P := fun M20 => ∃ w, zHf M M20 ∧ zPm M20 n B (gp15 B n v s) ∧ zRA M20 120 w ∧ w 8 = v 8 ∧ ((sEnd B n (gp15 B n v s)).1 = 0 → vset w 8 (v 8 + 1) = vGrpF B n v s)) ⟨_, hF17, (by rw [g15n (of_decide_eq_false c209)]; exact hP17), hA17, (by rw [vset_off (by omega), vset_off (by omega), vset_off (by omega), vset_off (by omega), vset_off (by omega), vset_off (by omega), vlet_off (by omega)]), (fun q => absurd (sEndOk q).1 (by rw [g15n (of_decide_eq_false c209)]; exact of_decide_eq_false c209))⟩ ?_
            intro M20 h20
            obtain ⟨w, hF21, hP21, hA21, hw8, hwV⟩ := h20
            refine zj_aload0 (n := 243) rfl dX10_parseGroup_242 ?_
            refine zj_callV0 (n := 246) (a' := 0) (b' := 0) rfl dX10_parseGroup_243 zm_X10_226 (by decide) (by decide) rfl (Nat.le_of_ble_eq_true rfl) (Nat.le_of_ble_eq_true rfl) (Nat.le_of_ble_eq_true rfl) (Nat.le_of_ble_eq_true rfl) (jX10_good hP21 ?_)
            refine zj_ifB_eq (n := 249) (tgt := 260) rfl dX10_parseGroup_246 (by decide) (fun c246 => ?_) (fun c246 => ?_)
            · exact zj_return dX10_parseGroup_260 rfl (h M20 w hF21 hP21 hA21 (fun q => absurd (sEndOk q).1 (of_decide_eq_false c246)))
            · refine zj_aload0 (n := 250) rfl dX10_parseGroup_249 ?_
              refine zj_getr (n := 253) (q := 120) rfl dX10_parseGroup_250 zf_X10_24 rfl (by decide) (by decide) hA21.now ?_
              refine zj_bipushN (v := 8) (n := 255) rfl dX10_parseGroup_253 (by decide) ?_
              refine zj_dup2 (n := 256) rfl dX10_parseGroup_255 ?_
              refine zj_ialoadN (e := v 8) (n := 257) rfl dX10_parseGroup_256 (by decide) rfl (by rw [show zLen 120 = 698 from rfl]; omega) (by rw [hA21.2.2 8 (by decide), hw8]) ?_
              refine zj_iconstN_1 (n := 258) rfl dX10_parseGroup_257 ?_
              refine zj_iaddN (n := 259) rfl dX10_parseGroup_258 ?_
              refine zj_iastoreN (n := 260) rfl dX10_parseGroup_259 (by decide) rfl (by rw [show zLen 120 = 698 from rfl]; omega) ?_
              refine zj_return dX10_parseGroup_260 rfl ?_
              exact h _ _ hF21.put hP21.st hA21.set hwV
          · have q14 := of_decide_eq_true c209
            refine zj_aload0 (n := 213) rfl dX10_parseGroup_212 ?_
            refine zj_getiN (e := tK B n e17) (n := 216) rfl dX10_parseGroup_213 zf_X10_242 rfl (by decide) (by decide) hK17.1 ?_
            refine zj_iconstN_3 (n := 217) rfl dX10_parseGroup_216 ?_
            refine zj_icmpN_ne (n := 220) (tgt := 242) rfl dX10_parseGroup_217 (by decide) (by omega) (by omega) (fun c217 => ?_) (fun c217 => ?_)
            · refine zj_gen (P := fun M20 => ∃ w, zHf M M20 ∧ zPm M20 n B (gp15 B n v s) ∧ zRA M20 120 w ∧ w 8 = v 8 ∧ ((sEnd B n (gp15 B n v s)).1 = 0 → vset w 8 (v 8 + 1) = vGrpF B n v s)) ⟨_, hF17, (by rw [g15s (by unfold sSemi; rw [← he17 q14, beq_false_of_ne c217]; rfl)]; exact hP17), hA17, (by rw [vset_off (by omega), vset_off (by omega), vset_off (by omega), vset_off (by omega), vset_off (by omega), vset_off (by omega), vlet_off (by omega)]), (fun q => absurd (sEndOk q).2 (by rw [g15s (by unfold sSemi; rw [← he17 q14, beq_false_of_ne c217]; rfl)]; unfold sSemi; rw [← he17 q14, beq_false_of_ne c217]; simp))⟩ ?_
              intro M20 h20
              obtain ⟨w, hF21, hP21, hA21, hw8, hwV⟩ := h20
              refine zj_aload0 (n := 243) rfl dX10_parseGroup_242 ?_
              refine zj_callV0 (n := 246) (a' := 0) (b' := 0) rfl dX10_parseGroup_243 zm_X10_226 (by decide) (by decide) rfl (Nat.le_of_ble_eq_true rfl) (Nat.le_of_ble_eq_true rfl) (Nat.le_of_ble_eq_true rfl) (Nat.le_of_ble_eq_true rfl) (jX10_good hP21 ?_)
              refine zj_ifB_eq (n := 249) (tgt := 260) rfl dX10_parseGroup_246 (by decide) (fun c246 => ?_) (fun c246 => ?_)
              · exact zj_return dX10_parseGroup_260 rfl (h M20 w hF21 hP21 hA21 (fun q => absurd (sEndOk q).1 (of_decide_eq_false c246)))
              · refine zj_aload0 (n := 250) rfl dX10_parseGroup_249 ?_
                refine zj_getr (n := 253) (q := 120) rfl dX10_parseGroup_250 zf_X10_24 rfl (by decide) (by decide) hA21.now ?_
                refine zj_bipushN (v := 8) (n := 255) rfl dX10_parseGroup_253 (by decide) ?_
                refine zj_dup2 (n := 256) rfl dX10_parseGroup_255 ?_
                refine zj_ialoadN (e := v 8) (n := 257) rfl dX10_parseGroup_256 (by decide) rfl (by rw [show zLen 120 = 698 from rfl]; omega) (by rw [hA21.2.2 8 (by decide), hw8]) ?_
                refine zj_iconstN_1 (n := 258) rfl dX10_parseGroup_257 ?_
                refine zj_iaddN (n := 259) rfl dX10_parseGroup_258 ?_
                refine zj_iastoreN (n := 260) rfl dX10_parseGroup_259 (by decide) rfl (by rw [show zLen 120 = 698 from rfl]; omega) ?_
                refine zj_return dX10_parseGroup_260 rfl ?_
                exact h _ _ hF21.put hP21.st hA21.set hwV
            · refine zj_aload0 (n := 221) rfl dX10_parseGroup_220 ?_
              refine zj_getiN (e := B (tS B n e17)) (n := 224) rfl dX10_parseGroup_221 zf_X10_253 rfl (by decide) (by decide) (hK17.2.2.2.2 c217) ?_
              have hsn17 : tS B n e17 < n := by
                by_cases w : tS B n e17 < n
                · exact w
                · rw [show tK B n e17 = 0 from sK_0.mpr w] at c217; cases c217
              have hb17 := (hT17.2.2 _ hsn17).1
              refine zj_bipushN (v := 59) (n := 226) rfl dX10_parseGroup_224 (by decide) ?_
              refine zj_icmpN_ne (n := 229) (tgt := 242) rfl dX10_parseGroup_226 (by decide) (by omega) (by omega) (fun c226 => ?_) (fun c226 => ?_)
              · refine zj_gen (P := fun M20 => ∃ w, zHf M M20 ∧ zPm M20 n B (gp15 B n v s) ∧ zRA M20 120 w ∧ w 8 = v 8 ∧ ((sEnd B n (gp15 B n v s)).1 = 0 → vset w 8 (v 8 + 1) = vGrpF B n v s)) ⟨_, hF17, (by rw [g15s (by unfold sSemi; rw [← he17 q14, beq_false_of_ne c226, Bool.and_false])]; exact hP17), hA17, (by rw [vset_off (by omega), vset_off (by omega), vset_off (by omega), vset_off (by omega), vset_off (by omega), vset_off (by omega), vlet_off (by omega)]), (fun q => absurd (sEndOk q).2 (by rw [g15s (by unfold sSemi; rw [← he17 q14, beq_false_of_ne c226, Bool.and_false])]; unfold sSemi; rw [← he17 q14, beq_false_of_ne c226]; simp))⟩ ?_
                intro M20 h20
                obtain ⟨w, hF21, hP21, hA21, hw8, hwV⟩ := h20
                refine zj_aload0 (n := 243) rfl dX10_parseGroup_242 ?_
                refine zj_callV0 (n := 246) (a' := 0) (b' := 0) rfl dX10_parseGroup_243 zm_X10_226 (by decide) (by decide) rfl (Nat.le_of_ble_eq_true rfl) (Nat.le_of_ble_eq_true rfl) (Nat.le_of_ble_eq_true rfl) (Nat.le_of_ble_eq_true rfl) (jX10_good hP21 ?_)
                refine zj_ifB_eq (n := 249) (tgt := 260) rfl dX10_parseGroup_246 (by decide) (fun c246 => ?_) (fun c246 => ?_)
                · exact zj_return dX10_parseGroup_260 rfl (h M20 w hF21 hP21 hA21 (fun q => absurd (sEndOk q).1 (of_decide_eq_false c246)))
                · refine zj_aload0 (n := 250) rfl dX10_parseGroup_249 ?_
                  refine zj_getr (n := 253) (q := 120) rfl dX10_parseGroup_250 zf_X10_24 rfl (by decide) (by decide) hA21.now ?_
                  refine zj_bipushN (v := 8) (n := 255) rfl dX10_parseGroup_253 (by decide) ?_
                  refine zj_dup2 (n := 256) rfl dX10_parseGroup_255 ?_
                  refine zj_ialoadN (e := v 8) (n := 257) rfl dX10_parseGroup_256 (by decide) rfl (by rw [show zLen 120 = 698 from rfl]; omega) (by rw [hA21.2.2 8 (by decide), hw8]) ?_
                  refine zj_iconstN_1 (n := 258) rfl dX10_parseGroup_257 ?_
                  refine zj_iaddN (n := 259) rfl dX10_parseGroup_258 ?_
                  refine zj_iastoreN (n := 260) rfl dX10_parseGroup_259 (by decide) rfl (by rw [show zLen 120 = 698 from rfl]; omega) ?_
                  refine zj_return dX10_parseGroup_260 rfl ?_
                  exact h _ _ hF21.put hP21.st hA21.set hwV
              · have hsem : sSemi B n (gp14 B n v s).2.2 = true := by unfold sSemi; rw [← he17 q14, c217, c226]; rfl
                have q13 := (sNum_ok q14).1
                have q12 := (sTake_ok q13).1
                have q11 := (sNum_ok q12).1
                have q10 := (sTake_ok q11).1
                have q9 := (sNum_ok q10).1
                have q8 := (sTake_ok q9).1
                have q7 := (sNum_ok q8).1
                have q6 := (sTake_ok q7).1
                have q5 := (sNum_ok q6).1
                have q4 := (sTake_ok q5).1
                have q4e := (sErr_ok (by decide)).mp (sNext_ok.mp q4)
                have q3 := ((sErr_ok (by decide)).mp q4e.1).1
                have q2 := sNext_ok.mp (sTake_ok q3).1
                have r2 := he2 q2
                have r5 := hy5 q4e.1
                have r8 := hx8 q6
                have r10 := hx10 q8
                have r12 := hx12 q10
                have r14 := hx14 q12
                have r16 := hx16 q14
                have b8 := (sNum_ok q6).2.2
                have b10 := (sNum_ok q8).2.2
                have b12 := (sNum_ok q10).2.2
                have b14 := (sNum_ok q12).2.2
                have b16 := (sNum_ok q14).2.2
                have eV : vset (vset (vset (vset (vset (vset (vlet v (268 + 23 * v 8 + 17) B (tS B n e2) (tE B n e2)) (268 + 23 * v 8 + 0) x5) (268 + 23 * v 8 + 1) x8) (268 + 23 * v 8 + 2) x10) (268 + 23 * v 8 + 3) x12) (268 + 23 * v 8 + 4) x14) (268 + 23 * v 8 + 5) x16 = vGrp B n v s := by
                  subst r2
                  have e5 : (gpt B n v s).getD 0 = x5 := by
                    cases q : gpt B n v s with
                    | none => have := q4e.2; rw [q] at this; cases this
                    | some t => exact (hz5 q4e.1 t q).symm
                  unfold vGrp
                  rw [e5, r8, r10, r12, r14, r16]
                  rfl
                have hv8 : vGrp B n v s 8 = v 8 := by rw [← eV]; rw [vset_off (by omega), vset_off (by omega), vset_off (by omega), vset_off (by omega), vset_off (by omega), vset_off (by omega), vlet_off (by omega)]
                have hA17v : zRA M17 120 (vGrp B n v s) := eV ▸ hA17
                have hpq : zPq (vGrp B n v s) (v 8) := by
                  have hag : ∀ j, zAc v j → vGrp B n v s j = v j := fun j hj => by
                    unfold zAc at hj
                    rw [← eV]
                    rw [vset_off (by omega), vset_off (by omega), vset_off (by omega), vset_off (by omega), vset_off (by omega), vset_off (by omega), vlet_off (by omega)]
                  refine ⟨hW.ag hag, hv8, hlt, ?_, ?_⟩
                  · show vGrp B n v s (268 + 23 * v 8 + 2) + vGrp B n v s (268 + 23 * v 8 + 3) ≤ 10
                    unfold vGrp
                    rw [vset_off (show 268 + 23 * v 8 + 2 ≠ 268 + 23 * v 8 + 5 by omega), vset_off (show 268 + 23 * v 8 + 2 ≠ 268 + 23 * v 8 + 4 by omega), vset_off (show 268 + 23 * v 8 + 2 ≠ 268 + 23 * v 8 + 3 by omega), vset_at, vset_off (show 268 + 23 * v 8 + 3 ≠ 268 + 23 * v 8 + 5 by omega), vset_off (show 268 + 23 * v 8 + 3 ≠ 268 + 23 * v 8 + 4 by omega), vset_at]
                    have c10 : tN B n (gp7 B n v s).2.2 ≤ 6 := b10.2
                    have c12 : tN B n (gp9 B n v s).2.2 ≤ 4 := b12.2
                    omega
                  · unfold vGrp
                    rw [vset_off (by omega), vset_off (by omega), vset_off (by omega), vset_off (by omega), vset_at]
                    exact b8.2
                refine zj_aload0 (n := 230) rfl dX10_parseGroup_229 ?_
                refine zj_iload1 (n := 231) rfl dX10_parseGroup_230 ?_
                refine zj_callV1 (n := 234) (a' := 0) (b' := 0) rfl dX10_parseGroup_231 zm_X10_360 (by decide) (by decide) rfl (Nat.le_of_ble_eq_true rfl) (Nat.le_of_ble_eq_true rfl) (Nat.le_of_ble_eq_true rfl) (Nat.le_of_ble_eq_true rfl) (jX10_isPlaced (v := vGrp B n v s) hA17v hpq ?_)
                intro M18 u18 b18 hg18 hA18 hb18 hbs hu18
                refine zj_ifB_ne (n := 237) (tgt := 242) rfl dX10_parseGroup_234 (by decide) (fun c234 => ?_) (fun c234 => ?_)
                · obtain ⟨p9, hp9⟩ := hb18 c234
                  refine zj_gen (P := fun M20 => ∃ w, zHf M M20 ∧ zPm M20 n B (gp15 B n v s) ∧ zRA M20 120 w ∧ w 8 = v 8 ∧ ((sEnd B n (gp15 B n v s)).1 = 0 → vset w 8 (v 8 + 1) = vGrpF B n v s)) ⟨_, (hg18.hf hF17), (by rw [g15y hsem (by rw [hp9]; rfl)]; exact hg18.pm hP17), hA18, (by rw [hu18 8 (by omega)]; exact hv8), (fun _ => by unfold vGrpF; rw [hp9])⟩ ?_
                  intro M20 h20
                  obtain ⟨w, hF21, hP21, hA21, hw8, hwV⟩ := h20
                  refine zj_aload0 (n := 243) rfl dX10_parseGroup_242 ?_
                  refine zj_callV0 (n := 246) (a' := 0) (b' := 0) rfl dX10_parseGroup_243 zm_X10_226 (by decide) (by decide) rfl (Nat.le_of_ble_eq_true rfl) (Nat.le_of_ble_eq_true rfl) (Nat.le_of_ble_eq_true rfl) (Nat.le_of_ble_eq_true rfl) (jX10_good hP21 ?_)
                  refine zj_ifB_eq (n := 249) (tgt := 260) rfl dX10_parseGroup_246 (by decide) (fun c246 => ?_) (fun c246 => ?_)
                  · exact zj_return dX10_parseGroup_260 rfl (h M20 w hF21 hP21 hA21 (fun q => absurd (sEndOk q).1 (of_decide_eq_false c246)))
                  · refine zj_aload0 (n := 250) rfl dX10_parseGroup_249 ?_
                    refine zj_getr (n := 253) (q := 120) rfl dX10_parseGroup_250 zf_X10_24 rfl (by decide) (by decide) hA21.now ?_
                    refine zj_bipushN (v := 8) (n := 255) rfl dX10_parseGroup_253 (by decide) ?_
                    refine zj_dup2 (n := 256) rfl dX10_parseGroup_255 ?_
                    refine zj_ialoadN (e := v 8) (n := 257) rfl dX10_parseGroup_256 (by decide) rfl (by rw [show zLen 120 = 698 from rfl]; omega) (by rw [hA21.2.2 8 (by decide), hw8]) ?_
                    refine zj_iconstN_1 (n := 258) rfl dX10_parseGroup_257 ?_
                    refine zj_iaddN (n := 259) rfl dX10_parseGroup_258 ?_
                    refine zj_iastoreN (n := 260) rfl dX10_parseGroup_259 (by decide) rfl (by rw [show zLen 120 = 698 from rfl]; omega) ?_
                    refine zj_return dX10_parseGroup_260 rfl ?_
                    exact h _ _ hF21.put hP21.st hA21.set hwV
                · refine zj_aload0 (n := 238) rfl dX10_parseGroup_237 ?_
                  refine zj_iconstN_5 (n := 239) rfl dX10_parseGroup_238 ?_
                  refine zj_callV1 (n := 242) (a' := 0) (b' := 0) rfl dX10_parseGroup_239 zm_X10_317 (by decide) (by decide) rfl (Nat.le_of_ble_eq_true rfl) (Nat.le_of_ble_eq_true rfl) (Nat.le_of_ble_eq_true rfl) (Nat.le_of_ble_eq_true rfl) (jX10_errs (hg18.pm hP17) (by decide) ?_)
                  intro M19 hG19 hP19
                  refine zj_gen (P := fun M20 => ∃ w, zHf M M20 ∧ zPm M20 n B (gp15 B n v s) ∧ zRA M20 120 w ∧ w 8 = v 8 ∧ ((sEnd B n (gp15 B n v s)).1 = 0 → vset w 8 (v 8 + 1) = vGrpF B n v s)) ⟨_, ((hg18.hf hF17).tr (zHf.of2 hG19)), (by rw [g15f hsem (by rw [c234] at hbs; cases hz : plS (vGrp B n v s) (v 8) (vsh (vGrp B n v s) (v 8)); rfl; rw [hz] at hbs; cases hbs)]; exact hP19), (hA18.gf hG19), (by rw [hu18 8 (by omega)]; exact hv8), (fun q => absurd (sEndOk q).1 (by rw [g15f hsem (by rw [c234] at hbs; cases hz : plS (vGrp B n v s) (v 8) (vsh (vGrp B n v s) (v 8)); rfl; rw [hz] at hbs; cases hbs), sRef_e q14]; simp))⟩ ?_
                  intro M20 h20
                  obtain ⟨w, hF21, hP21, hA21, hw8, hwV⟩ := h20
                  refine zj_aload0 (n := 243) rfl dX10_parseGroup_242 ?_
                  refine zj_callV0 (n := 246) (a' := 0) (b' := 0) rfl dX10_parseGroup_243 zm_X10_226 (by decide) (by decide) rfl (Nat.le_of_ble_eq_true rfl) (Nat.le_of_ble_eq_true rfl) (Nat.le_of_ble_eq_true rfl) (Nat.le_of_ble_eq_true rfl) (jX10_good hP21 ?_)
                  refine zj_ifB_eq (n := 249) (tgt := 260) rfl dX10_parseGroup_246 (by decide) (fun c246 => ?_) (fun c246 => ?_)
                  · exact zj_return dX10_parseGroup_260 rfl (h M20 w hF21 hP21 hA21 (fun q => absurd (sEndOk q).1 (of_decide_eq_false c246)))
                  · refine zj_aload0 (n := 250) rfl dX10_parseGroup_249 ?_
                    refine zj_getr (n := 253) (q := 120) rfl dX10_parseGroup_250 zf_X10_24 rfl (by decide) (by decide) hA21.now ?_
                    refine zj_bipushN (v := 8) (n := 255) rfl dX10_parseGroup_253 (by decide) ?_
                    refine zj_dup2 (n := 256) rfl dX10_parseGroup_255 ?_
                    refine zj_ialoadN (e := v 8) (n := 257) rfl dX10_parseGroup_256 (by decide) rfl (by rw [show zLen 120 = 698 from rfl]; omega) (by rw [hA21.2.2 8 (by decide), hw8]) ?_
                    refine zj_iconstN_1 (n := 258) rfl dX10_parseGroup_257 ?_
                    refine zj_iaddN (n := 259) rfl dX10_parseGroup_258 ?_
                    refine zj_iastoreN (n := 260) rfl dX10_parseGroup_259 (by decide) rfl (by rw [show zLen 120 = 698 from rfl]; omega) ?_
                    refine zj_return dX10_parseGroup_260 rfl ?_
                    exact h _ _ hF21.put hP21.st hA21.set hwV
        · refine zj_aload0 (n := 94) rfl dX10_parseGroup_93 ?_
          refine zj_getr (n := 97) (q := 120) rfl dX10_parseGroup_94 zf_X10_24 rfl (by decide) (by decide) hA5.now ?_
          refine zj_iload2 (n := 98) rfl dX10_parseGroup_97 ?_
          refine zj_iconstN_0 (n := 99) rfl dX10_parseGroup_98 ?_
          refine zj_iaddN (n := 100) rfl dX10_parseGroup_99 ?_
          refine zj_ialoadN (e := x5) (n := 101) rfl dX10_parseGroup_100 (by decide) rfl (by rw [show zLen 120 = 698 from rfl]; omega) (by rw [hA5.2.2 _ (by omega), vset_at]) ?_
          rw [hy5 (of_decide_eq_true c90)]
          refine zj_iconst_m1 (n := 102) rfl dX10_parseGroup_101 ?_
          refine zj_icmpO_ne (n := 105) (tgt := 110) rfl dX10_parseGroup_102 (by decide) (fun m hm => by have := kfind_lt hW (by decide) hm; omega) (fun m102 c102 => ?_) (fun c102 => ?_)
          · refine zj_gen (P := fun M6 => zHf M M6 ∧ zPm M6 n B (gp4e B n v s) ∧ zRA M6 120 (vset (vlet v (268 + 23 * v 8 + 17) B (tS B n e2) (tE B n e2)) (268 + 23 * v 8 + 0) x5)) ⟨hF5, (by unfold gp4e; rw [c102, sErr_eq (show (some m102).isNone = false from rfl)]; exact hP5), hA5⟩ ?_
            intro M6 h6
            obtain ⟨hF6, hP6, hA6⟩ := h6
            refine zj_aload0 (n := 111) rfl dX10_parseGroup_110 ?_
            refine zj_callV0 (n := 114) (a' := 0) (b' := 0) rfl dX10_parseGroup_111 zm_X10_320 (by decide) (by decide) rfl (Nat.le_of_ble_eq_true rfl) (Nat.le_of_ble_eq_true rfl) (Nat.le_of_ble_eq_true rfl) (Nat.le_of_ble_eq_true rfl) (jX10_goOn hP6 ?_)
            intro M7 hG7 hP7
            have hF7 : zHf M M7 := hF6.tr (zHf.of hG7)
            have hA7 := hA6.gf hG7
            change zPm M7 n B (gp4 B n v s) at hP7
            refine zj_aload0 (n := 115) rfl dX10_parseGroup_114 ?_
            refine zj_getr (n := 118) (q := 120) rfl dX10_parseGroup_115 zf_X10_24 rfl (by decide) (by decide) hA7.now ?_
            refine zj_iload2 (n := 119) rfl dX10_parseGroup_118 ?_
            refine zj_iconstN_1 (n := 120) rfl dX10_parseGroup_119 ?_
            refine zj_iaddN (n := 121) rfl dX10_parseGroup_120 ?_
            refine zj_aload0 (n := 122) rfl dX10_parseGroup_121 ?_
            refine zj_ldcwS (i := 18) (n := 125) rfl dX10_parseGroup_122 rfl (by decide) rfl ?_
            refine zj_iconstN_0 (n := 126) rfl dX10_parseGroup_125 ?_
            refine zj_sipushN (v := 9999) (n := 129) rfl dX10_parseGroup_126 (by decide) ?_
            refine zj_callV3 (n := 132) (a' := 0) (b' := 0) rfl dX10_parseGroup_129 zm_X10_355 (by decide) (by decide) rfl (Nat.le_of_ble_eq_true rfl) (Nat.le_of_ble_eq_true rfl) (Nat.le_of_ble_eq_true rfl) (Nat.le_of_ble_eq_true rfl) (jX10_numberAfter hP7 (by decide) (by decide) (by decide) ?_)
            intro M8 x8 hx8b hG8 hP8 hx8
            have hF8 : zHf M M8 := hF7.tr (zHf.of hG8)
            have hA8 := hA7.gf hG8
            change zPm M8 n B (gp6 B n v s) at hP8
            refine zj_iastoreN (n := 133) rfl dX10_parseGroup_132 (by decide) rfl (by rw [show zLen 120 = 698 from rfl]; omega) ?_
            refine zj_gen (P := fun M9 => zHf M M9 ∧ zPm M9 n B (gp6 B n v s) ∧ zRA M9 120 (vset (vset (vlet v (268 + 23 * v 8 + 17) B (tS B n e2) (tE B n e2)) (268 + 23 * v 8 + 0) x5) (268 + 23 * v 8 + 1) x8)) ⟨hF8.put, hP8.st, hA8.set⟩ ?_
            intro M9 h9
            obtain ⟨hF9, hP9, hA9⟩ := h9
            refine zj_aload0 (n := 134) rfl dX10_parseGroup_133 ?_
            refine zj_getr (n := 137) (q := 120) rfl dX10_parseGroup_134 zf_X10_24 rfl (by decide) (by decide) hA9.now ?_
            refine zj_iload2 (n := 138) rfl dX10_parseGroup_137 ?_
            refine zj_iconstN_2 (n := 139) rfl dX10_parseGroup_138 ?_
            refine zj_iaddN (n := 140) rfl dX10_parseGroup_139 ?_
            refine zj_aload0 (n := 141) rfl dX10_parseGroup_140 ?_
            refine zj_ldcwS (i := 19) (n := 144) rfl dX10_parseGroup_141 rfl (by decide) rfl ?_
            refine zj_iconstN_1 (n := 145) rfl dX10_parseGroup_144 ?_
            refine zj_bipushN (v := 6) (n := 147) rfl dX10_parseGroup_145 (by decide) ?_
            refine zj_callV3 (n := 150) (a' := 0) (b' := 0) rfl dX10_parseGroup_147 zm_X10_355 (by decide) (by decide) rfl (Nat.le_of_ble_eq_true rfl) (Nat.le_of_ble_eq_true rfl) (Nat.le_of_ble_eq_true rfl) (Nat.le_of_ble_eq_true rfl) (jX10_numberAfter hP9 (by decide) (by decide) (by decide) ?_)
            intro M10 x10 hx10b hG10 hP10 hx10
            have hF10 : zHf M M10 := hF9.tr (zHf.of hG10)
            have hA10 := hA9.gf hG10
            change zPm M10 n B (gp8 B n v s) at hP10
            refine zj_iastoreN (n := 151) rfl dX10_parseGroup_150 (by decide) rfl (by rw [show zLen 120 = 698 from rfl]; omega) ?_
            refine zj_gen (P := fun M11 => zHf M M11 ∧ zPm M11 n B (gp8 B n v s) ∧ zRA M11 120 (vset (vset (vset (vlet v (268 + 23 * v 8 + 17) B (tS B n e2) (tE B n e2)) (268 + 23 * v 8 + 0) x5) (268 + 23 * v 8 + 1) x8) (268 + 23 * v 8 + 2) x10)) ⟨hF10.put, hP10.st, hA10.set⟩ ?_
            intro M11 h11
            obtain ⟨hF11, hP11, hA11⟩ := h11
            refine zj_aload0 (n := 152) rfl dX10_parseGroup_151 ?_
            refine zj_getr (n := 155) (q := 120) rfl dX10_parseGroup_152 zf_X10_24 rfl (by decide) (by decide) hA11.now ?_
            refine zj_iload2 (n := 156) rfl dX10_parseGroup_155 ?_
            refine zj_iconstN_3 (n := 157) rfl dX10_parseGroup_156 ?_
            refine zj_iaddN (n := 158) rfl dX10_parseGroup_157 ?_
            refine zj_aload0 (n := 159) rfl dX10_parseGroup_158 ?_
            refine zj_ldcwS (i := 20) (n := 162) rfl dX10_parseGroup_159 rfl (by decide) rfl ?_
            refine zj_iconstN_1 (n := 163) rfl dX10_parseGroup_162 ?_
            refine zj_iconstN_4 (n := 164) rfl dX10_parseGroup_163 ?_
            refine zj_callV3 (n := 167) (a' := 0) (b' := 0) rfl dX10_parseGroup_164 zm_X10_355 (by decide) (by decide) rfl (Nat.le_of_ble_eq_true rfl) (Nat.le_of_ble_eq_true rfl) (Nat.le_of_ble_eq_true rfl) (Nat.le_of_ble_eq_true rfl) (jX10_numberAfter hP11 (by decide) (by decide) (by decide) ?_)
            intro M12 x12 hx12b hG12 hP12 hx12
            have hF12 : zHf M M12 := hF11.tr (zHf.of hG12)
            have hA12 := hA11.gf hG12
            change zPm M12 n B (gp10 B n v s) at hP12
            refine zj_iastoreN (n := 168) rfl dX10_parseGroup_167 (by decide) rfl (by rw [show zLen 120 = 698 from rfl]; omega) ?_
            refine zj_gen (P := fun M13 => zHf M M13 ∧ zPm M13 n B (gp10 B n v s) ∧ zRA M13 120 (vset (vset (vset (vset (vlet v (268 + 23 * v 8 + 17) B (tS B n e2) (tE B n e2)) (268 + 23 * v 8 + 0) x5) (268 + 23 * v 8 + 1) x8) (268 + 23 * v 8 + 2) x10) (268 + 23 * v 8 + 3) x12)) ⟨hF12.put, hP12.st, hA12.set⟩ ?_
            intro M13 h13
            obtain ⟨hF13, hP13, hA13⟩ := h13
            refine zj_aload0 (n := 169) rfl dX10_parseGroup_168 ?_
            refine zj_getr (n := 172) (q := 120) rfl dX10_parseGroup_169 zf_X10_24 rfl (by decide) (by decide) hA13.now ?_
            refine zj_iload2 (n := 173) rfl dX10_parseGroup_172 ?_
            refine zj_iconstN_4 (n := 174) rfl dX10_parseGroup_173 ?_
            refine zj_iaddN (n := 175) rfl dX10_parseGroup_174 ?_
            refine zj_aload0 (n := 176) rfl dX10_parseGroup_175 ?_
            refine zj_ldcwS (i := 21) (n := 179) rfl dX10_parseGroup_176 rfl (by decide) rfl ?_
            refine zj_iconstN_1 (n := 180) rfl dX10_parseGroup_179 ?_
            refine zj_bipushN (v := 100) (n := 182) rfl dX10_parseGroup_180 (by decide) ?_
            refine zj_callV3 (n := 185) (a' := 0) (b' := 0) rfl dX10_parseGroup_182 zm_X10_355 (by decide) (by decide) rfl (Nat.le_of_ble_eq_true rfl) (Nat.le_of_ble_eq_true rfl) (Nat.le_of_ble_eq_true rfl) (Nat.le_of_ble_eq_true rfl) (jX10_numberAfter hP13 (by decide) (by decide) (by decide) ?_)
            intro M14 x14 hx14b hG14 hP14 hx14
            have hF14 : zHf M M14 := hF13.tr (zHf.of hG14)
            have hA14 := hA13.gf hG14
            change zPm M14 n B (gp12 B n v s) at hP14
            refine zj_iastoreN (n := 186) rfl dX10_parseGroup_185 (by decide) rfl (by rw [show zLen 120 = 698 from rfl]; omega) ?_
            refine zj_gen (P := fun M15 => zHf M M15 ∧ zPm M15 n B (gp12 B n v s) ∧ zRA M15 120 (vset (vset (vset (vset (vset (vlet v (268 + 23 * v 8 + 17) B (tS B n e2) (tE B n e2)) (268 + 23 * v 8 + 0) x5) (268 + 23 * v 8 + 1) x8) (268 + 23 * v 8 + 2) x10) (268 + 23 * v 8 + 3) x12) (268 + 23 * v 8 + 4) x14)) ⟨hF14.put, hP14.st, hA14.set⟩ ?_
            intro M15 h15
            obtain ⟨hF15, hP15, hA15⟩ := h15
            refine zj_aload0 (n := 187) rfl dX10_parseGroup_186 ?_
            refine zj_getr (n := 190) (q := 120) rfl dX10_parseGroup_187 zf_X10_24 rfl (by decide) (by decide) hA15.now ?_
            refine zj_iload2 (n := 191) rfl dX10_parseGroup_190 ?_
            refine zj_iconstN_5 (n := 192) rfl dX10_parseGroup_191 ?_
            refine zj_iaddN (n := 193) rfl dX10_parseGroup_192 ?_
            refine zj_aload0 (n := 194) rfl dX10_parseGroup_193 ?_
            refine zj_ldcwS (i := 22) (n := 197) rfl dX10_parseGroup_194 rfl (by decide) rfl ?_
            refine zj_iconstN_1 (n := 198) rfl dX10_parseGroup_197 ?_
            refine zj_sipushN (v := 9999) (n := 201) rfl dX10_parseGroup_198 (by decide) ?_
            refine zj_callV3 (n := 204) (a' := 0) (b' := 0) rfl dX10_parseGroup_201 zm_X10_355 (by decide) (by decide) rfl (Nat.le_of_ble_eq_true rfl) (Nat.le_of_ble_eq_true rfl) (Nat.le_of_ble_eq_true rfl) (Nat.le_of_ble_eq_true rfl) (jX10_numberAfter hP15 (by decide) (by decide) (by decide) ?_)
            intro M16 x16 hx16b hG16 hP16 hx16
            have hF16 : zHf M M16 := hF15.tr (zHf.of hG16)
            have hA16 := hA15.gf hG16
            change zPm M16 n B (gp14 B n v s) at hP16
            refine zj_iastoreN (n := 205) rfl dX10_parseGroup_204 (by decide) rfl (by rw [show zLen 120 = 698 from rfl]; omega) ?_
            refine zj_gen (P := fun M17 => zHf M M17 ∧ zPm M17 n B (gp14 B n v s) ∧ zRA M17 120 (vset (vset (vset (vset (vset (vset (vlet v (268 + 23 * v 8 + 17) B (tS B n e2) (tE B n e2)) (268 + 23 * v 8 + 0) x5) (268 + 23 * v 8 + 1) x8) (268 + 23 * v 8 + 2) x10) (268 + 23 * v 8 + 3) x12) (268 + 23 * v 8 + 4) x14) (268 + 23 * v 8 + 5) x16)) ⟨hF16.put, hP16.st, hA16.set⟩ ?_
            intro M17 h17
            obtain ⟨hF17, hP17, hA17⟩ := h17
            obtain ⟨hT17, -, -, -, -, e17, hen17, hK17, he17⟩ := id hP17
            have hts17 := tS_le (B := B) hen17
            have hk17 : tK B n e17 ≤ 3 := sK_le
            refine zj_aload0 (n := 206) rfl dX10_parseGroup_205 ?_
            refine zj_callV0 (n := 209) (a' := 0) (b' := 0) rfl dX10_parseGroup_206 zm_X10_226 (by decide) (by decide) rfl (Nat.le_of_ble_eq_true rfl) (Nat.le_of_ble_eq_true rfl) (Nat.le_of_ble_eq_true rfl) (Nat.le_of_ble_eq_true rfl) (jX10_good hP17 ?_)
            refine zj_ifB_eq (n := 212) (tgt := 242) rfl dX10_parseGroup_209 (by decide) (fun c209 => ?_) (fun c209 => ?_)
            · refine zj_gen (P := fun M20 => ∃ w, zHf M M20 ∧ zPm M20 n B (gp15 B n v s) ∧ zRA M20 120 w ∧ w 8 = v 8 ∧ ((sEnd B n (gp15 B n v s)).1 = 0 → vset w 8 (v 8 + 1) = vGrpF B n v s)) ⟨_, hF17, (by rw [g15n (of_decide_eq_false c209)]; exact hP17), hA17, (by rw [vset_off (by omega), vset_off (by omega), vset_off (by omega), vset_off (by omega), vset_off (by omega), vset_off (by omega), vlet_off (by omega)]), (fun q => absurd (sEndOk q).1 (by rw [g15n (of_decide_eq_false c209)]; exact of_decide_eq_false c209))⟩ ?_
              intro M20 h20
              obtain ⟨w, hF21, hP21, hA21, hw8, hwV⟩ := h20
              refine zj_aload0 (n := 243) rfl dX10_parseGroup_242 ?_
              refine zj_callV0 (n := 246) (a' := 0) (b' := 0) rfl dX10_parseGroup_243 zm_X10_226 (by decide) (by decide) rfl (Nat.le_of_ble_eq_true rfl) (Nat.le_of_ble_eq_true rfl) (Nat.le_of_ble_eq_true rfl) (Nat.le_of_ble_eq_true rfl) (jX10_good hP21 ?_)
              refine zj_ifB_eq (n := 249) (tgt := 260) rfl dX10_parseGroup_246 (by decide) (fun c246 => ?_) (fun c246 => ?_)
              · exact zj_return dX10_parseGroup_260 rfl (h M20 w hF21 hP21 hA21 (fun q => absurd (sEndOk q).1 (of_decide_eq_false c246)))
              · refine zj_aload0 (n := 250) rfl dX10_parseGroup_249 ?_
                refine zj_getr (n := 253) (q := 120) rfl dX10_parseGroup_250 zf_X10_24 rfl (by decide) (by decide) hA21.now ?_
                refine zj_bipushN (v := 8) (n := 255) rfl dX10_parseGroup_253 (by decide) ?_
                refine zj_dup2 (n := 256) rfl dX10_parseGroup_255 ?_
                refine zj_ialoadN (e := v 8) (n := 257) rfl dX10_parseGroup_256 (by decide) rfl (by rw [show zLen 120 = 698 from rfl]; omega) (by rw [hA21.2.2 8 (by decide), hw8]) ?_
                refine zj_iconstN_1 (n := 258) rfl dX10_parseGroup_257 ?_
                refine zj_iaddN (n := 259) rfl dX10_parseGroup_258 ?_
                refine zj_iastoreN (n := 260) rfl dX10_parseGroup_259 (by decide) rfl (by rw [show zLen 120 = 698 from rfl]; omega) ?_
                refine zj_return dX10_parseGroup_260 rfl ?_
                exact h _ _ hF21.put hP21.st hA21.set hwV
            · have q14 := of_decide_eq_true c209
              refine zj_aload0 (n := 213) rfl dX10_parseGroup_212 ?_
              refine zj_getiN (e := tK B n e17) (n := 216) rfl dX10_parseGroup_213 zf_X10_242 rfl (by decide) (by decide) hK17.1 ?_
              refine zj_iconstN_3 (n := 217) rfl dX10_parseGroup_216 ?_
              refine zj_icmpN_ne (n := 220) (tgt := 242) rfl dX10_parseGroup_217 (by decide) (by omega) (by omega) (fun c217 => ?_) (fun c217 => ?_)
              · refine zj_gen (P := fun M20 => ∃ w, zHf M M20 ∧ zPm M20 n B (gp15 B n v s) ∧ zRA M20 120 w ∧ w 8 = v 8 ∧ ((sEnd B n (gp15 B n v s)).1 = 0 → vset w 8 (v 8 + 1) = vGrpF B n v s)) ⟨_, hF17, (by rw [g15s (by unfold sSemi; rw [← he17 q14, beq_false_of_ne c217]; rfl)]; exact hP17), hA17, (by rw [vset_off (by omega), vset_off (by omega), vset_off (by omega), vset_off (by omega), vset_off (by omega), vset_off (by omega), vlet_off (by omega)]), (fun q => absurd (sEndOk q).2 (by rw [g15s (by unfold sSemi; rw [← he17 q14, beq_false_of_ne c217]; rfl)]; unfold sSemi; rw [← he17 q14, beq_false_of_ne c217]; simp))⟩ ?_
                intro M20 h20
                obtain ⟨w, hF21, hP21, hA21, hw8, hwV⟩ := h20
                refine zj_aload0 (n := 243) rfl dX10_parseGroup_242 ?_
                refine zj_callV0 (n := 246) (a' := 0) (b' := 0) rfl dX10_parseGroup_243 zm_X10_226 (by decide) (by decide) rfl (Nat.le_of_ble_eq_true rfl) (Nat.le_of_ble_eq_true rfl) (Nat.le_of_ble_eq_true rfl) (Nat.le_of_ble_eq_true rfl) (jX10_good hP21 ?_)
                refine zj_ifB_eq (n := 249) (tgt := 260) rfl dX10_parseGroup_246 (by decide) (fun c246 => ?_) (fun c246 => ?_)
                · exact zj_return dX10_parseGroup_260 rfl (h M20 w hF21 hP21 hA21 (fun q => absurd (sEndOk q).1 (of_decide_eq_false c246)))
                · refine zj_aload0 (n := 250) rfl dX10_parseGroup_249 ?_
                  refine zj_getr (n := 253) (q := 120) rfl dX10_parseGroup_250 zf_X10_24 rfl (by decide) (by decide) hA21.now ?_
                  refine zj_bipushN (v := 8) (n := 255) rfl dX10_parseGroup_253 (by decide) ?_
                  refine zj_dup2 (n := 256) rfl dX10_parseGroup_255 ?_
                  refine zj_ialoadN (e := v 8) (n := 257) rfl dX10_parseGroup_256 (by decide) rfl (by rw [show zLen 120 = 698 from rfl]; omega) (by rw [hA21.2.2 8 (by decide), hw8]) ?_
                  refine zj_iconstN_1 (n := 258) rfl dX10_parseGroup_257 ?_
                  refine zj_iaddN (n := 259) rfl dX10_parseGroup_258 ?_
                  refine zj_iastoreN (n := 260) rfl dX10_parseGroup_259 (by decide) rfl (by rw [show zLen 120 = 698 from rfl]; omega) ?_
                  refine zj_return dX10_parseGroup_260 rfl ?_
                  exact h _ _ hF21.put hP21.st hA21.set hwV
              · refine zj_aload0 (n := 221) rfl dX10_parseGroup_220 ?_
                refine zj_getiN (e := B (tS B n e17)) (n := 224) rfl dX10_parseGroup_221 zf_X10_253 rfl (by decide) (by decide) (hK17.2.2.2.2 c217) ?_
                have hsn17 : tS B n e17 < n := by
                  by_cases w : tS B n e17 < n
                  · exact w
                  · rw [show tK B n e17 = 0 from sK_0.mpr w] at c217; cases c217
                have hb17 := (hT17.2.2 _ hsn17).1
                refine zj_bipushN (v := 59) (n := 226) rfl dX10_parseGroup_224 (by decide) ?_
                refine zj_icmpN_ne (n := 229) (tgt := 242) rfl dX10_parseGroup_226 (by decide) (by omega) (by omega) (fun c226 => ?_) (fun c226 => ?_)
                · refine zj_gen (P := fun M20 => ∃ w, zHf M M20 ∧ zPm M20 n B (gp15 B n v s) ∧ zRA M20 120 w ∧ w 8 = v 8 ∧ ((sEnd B n (gp15 B n v s)).1 = 0 → vset w 8 (v 8 + 1) = vGrpF B n v s)) ⟨_, hF17, (by rw [g15s (by unfold sSemi; rw [← he17 q14, beq_false_of_ne c226, Bool.and_false])]; exact hP17), hA17, (by rw [vset_off (by omega), vset_off (by omega), vset_off (by omega), vset_off (by omega), vset_off (by omega), vset_off (by omega), vlet_off (by omega)]), (fun q => absurd (sEndOk q).2 (by rw [g15s (by unfold sSemi; rw [← he17 q14, beq_false_of_ne c226, Bool.and_false])]; unfold sSemi; rw [← he17 q14, beq_false_of_ne c226]; simp))⟩ ?_
                  intro M20 h20
                  obtain ⟨w, hF21, hP21, hA21, hw8, hwV⟩ := h20
                  refine zj_aload0 (n := 243) rfl dX10_parseGroup_242 ?_
                  refine zj_callV0 (n := 246) (a' := 0) (b' := 0) rfl dX10_parseGroup_243 zm_X10_226 (by decide) (by decide) rfl (Nat.le_of_ble_eq_true rfl) (Nat.le_of_ble_eq_true rfl) (Nat.le_of_ble_eq_true rfl) (Nat.le_of_ble_eq_true rfl) (jX10_good hP21 ?_)
                  refine zj_ifB_eq (n := 249) (tgt := 260) rfl dX10_parseGroup_246 (by decide) (fun c246 => ?_) (fun c246 => ?_)
                  · exact zj_return dX10_parseGroup_260 rfl (h M20 w hF21 hP21 hA21 (fun q => absurd (sEndOk q).1 (of_decide_eq_false c246)))
                  · refine zj_aload0 (n := 250) rfl dX10_parseGroup_249 ?_
                    refine zj_getr (n := 253) (q := 120) rfl dX10_parseGroup_250 zf_X10_24 rfl (by decide) (by decide) hA21.now ?_
                    refine zj_bipushN (v := 8) (n := 255) rfl dX10_parseGroup_253 (by decide) ?_
                    refine zj_dup2 (n := 256) rfl dX10_parseGroup_255 ?_
                    refine zj_ialoadN (e := v 8) (n := 257) rfl dX10_parseGroup_256 (by decide) rfl (by rw [show zLen 120 = 698 from rfl]; omega) (by rw [hA21.2.2 8 (by decide), hw8]) ?_
                    refine zj_iconstN_1 (n := 258) rfl dX10_parseGroup_257 ?_
                    refine zj_iaddN (n := 259) rfl dX10_parseGroup_258 ?_
                    refine zj_iastoreN (n := 260) rfl dX10_parseGroup_259 (by decide) rfl (by rw [show zLen 120 = 698 from rfl]; omega) ?_
                    refine zj_return dX10_parseGroup_260 rfl ?_
                    exact h _ _ hF21.put hP21.st hA21.set hwV
                · have hsem : sSemi B n (gp14 B n v s).2.2 = true := by unfold sSemi; rw [← he17 q14, c217, c226]; rfl
                  have q13 := (sNum_ok q14).1
                  have q12 := (sTake_ok q13).1
                  have q11 := (sNum_ok q12).1
                  have q10 := (sTake_ok q11).1
                  have q9 := (sNum_ok q10).1
                  have q8 := (sTake_ok q9).1
                  have q7 := (sNum_ok q8).1
                  have q6 := (sTake_ok q7).1
                  have q5 := (sNum_ok q6).1
                  have q4 := (sTake_ok q5).1
                  have q4e := (sErr_ok (by decide)).mp (sNext_ok.mp q4)
                  have q3 := ((sErr_ok (by decide)).mp q4e.1).1
                  have q2 := sNext_ok.mp (sTake_ok q3).1
                  have r2 := he2 q2
                  have r5 := hy5 q4e.1
                  have r8 := hx8 q6
                  have r10 := hx10 q8
                  have r12 := hx12 q10
                  have r14 := hx14 q12
                  have r16 := hx16 q14
                  have b8 := (sNum_ok q6).2.2
                  have b10 := (sNum_ok q8).2.2
                  have b12 := (sNum_ok q10).2.2
                  have b14 := (sNum_ok q12).2.2
                  have b16 := (sNum_ok q14).2.2
                  have eV : vset (vset (vset (vset (vset (vset (vlet v (268 + 23 * v 8 + 17) B (tS B n e2) (tE B n e2)) (268 + 23 * v 8 + 0) x5) (268 + 23 * v 8 + 1) x8) (268 + 23 * v 8 + 2) x10) (268 + 23 * v 8 + 3) x12) (268 + 23 * v 8 + 4) x14) (268 + 23 * v 8 + 5) x16 = vGrp B n v s := by
                    subst r2
                    have e5 : (gpt B n v s).getD 0 = x5 := by
                      cases q : gpt B n v s with
                      | none => have := q4e.2; rw [q] at this; cases this
                      | some t => exact (hz5 q4e.1 t q).symm
                    unfold vGrp
                    rw [e5, r8, r10, r12, r14, r16]
                    rfl
                  have hv8 : vGrp B n v s 8 = v 8 := by rw [← eV]; rw [vset_off (by omega), vset_off (by omega), vset_off (by omega), vset_off (by omega), vset_off (by omega), vset_off (by omega), vlet_off (by omega)]
                  have hA17v : zRA M17 120 (vGrp B n v s) := eV ▸ hA17
                  have hpq : zPq (vGrp B n v s) (v 8) := by
                    have hag : ∀ j, zAc v j → vGrp B n v s j = v j := fun j hj => by
                      unfold zAc at hj
                      rw [← eV]
                      rw [vset_off (by omega), vset_off (by omega), vset_off (by omega), vset_off (by omega), vset_off (by omega), vset_off (by omega), vlet_off (by omega)]
                    refine ⟨hW.ag hag, hv8, hlt, ?_, ?_⟩
                    · show vGrp B n v s (268 + 23 * v 8 + 2) + vGrp B n v s (268 + 23 * v 8 + 3) ≤ 10
                      unfold vGrp
                      rw [vset_off (show 268 + 23 * v 8 + 2 ≠ 268 + 23 * v 8 + 5 by omega), vset_off (show 268 + 23 * v 8 + 2 ≠ 268 + 23 * v 8 + 4 by omega), vset_off (show 268 + 23 * v 8 + 2 ≠ 268 + 23 * v 8 + 3 by omega), vset_at, vset_off (show 268 + 23 * v 8 + 3 ≠ 268 + 23 * v 8 + 5 by omega), vset_off (show 268 + 23 * v 8 + 3 ≠ 268 + 23 * v 8 + 4 by omega), vset_at]
                      have c10 : tN B n (gp7 B n v s).2.2 ≤ 6 := b10.2
                      have c12 : tN B n (gp9 B n v s).2.2 ≤ 4 := b12.2
                      omega
                    · unfold vGrp
                      rw [vset_off (by omega), vset_off (by omega), vset_off (by omega), vset_off (by omega), vset_at]
                      exact b8.2
                  refine zj_aload0 (n := 230) rfl dX10_parseGroup_229 ?_
                  refine zj_iload1 (n := 231) rfl dX10_parseGroup_230 ?_
                  refine zj_callV1 (n := 234) (a' := 0) (b' := 0) rfl dX10_parseGroup_231 zm_X10_360 (by decide) (by decide) rfl (Nat.le_of_ble_eq_true rfl) (Nat.le_of_ble_eq_true rfl) (Nat.le_of_ble_eq_true rfl) (Nat.le_of_ble_eq_true rfl) (jX10_isPlaced (v := vGrp B n v s) hA17v hpq ?_)
                  intro M18 u18 b18 hg18 hA18 hb18 hbs hu18
                  refine zj_ifB_ne (n := 237) (tgt := 242) rfl dX10_parseGroup_234 (by decide) (fun c234 => ?_) (fun c234 => ?_)
                  · obtain ⟨p9, hp9⟩ := hb18 c234
                    refine zj_gen (P := fun M20 => ∃ w, zHf M M20 ∧ zPm M20 n B (gp15 B n v s) ∧ zRA M20 120 w ∧ w 8 = v 8 ∧ ((sEnd B n (gp15 B n v s)).1 = 0 → vset w 8 (v 8 + 1) = vGrpF B n v s)) ⟨_, (hg18.hf hF17), (by rw [g15y hsem (by rw [hp9]; rfl)]; exact hg18.pm hP17), hA18, (by rw [hu18 8 (by omega)]; exact hv8), (fun _ => by unfold vGrpF; rw [hp9])⟩ ?_
                    intro M20 h20
                    obtain ⟨w, hF21, hP21, hA21, hw8, hwV⟩ := h20
                    refine zj_aload0 (n := 243) rfl dX10_parseGroup_242 ?_
                    refine zj_callV0 (n := 246) (a' := 0) (b' := 0) rfl dX10_parseGroup_243 zm_X10_226 (by decide) (by decide) rfl (Nat.le_of_ble_eq_true rfl) (Nat.le_of_ble_eq_true rfl) (Nat.le_of_ble_eq_true rfl) (Nat.le_of_ble_eq_true rfl) (jX10_good hP21 ?_)
                    refine zj_ifB_eq (n := 249) (tgt := 260) rfl dX10_parseGroup_246 (by decide) (fun c246 => ?_) (fun c246 => ?_)
                    · exact zj_return dX10_parseGroup_260 rfl (h M20 w hF21 hP21 hA21 (fun q => absurd (sEndOk q).1 (of_decide_eq_false c246)))
                    · refine zj_aload0 (n := 250) rfl dX10_parseGroup_249 ?_
                      refine zj_getr (n := 253) (q := 120) rfl dX10_parseGroup_250 zf_X10_24 rfl (by decide) (by decide) hA21.now ?_
                      refine zj_bipushN (v := 8) (n := 255) rfl dX10_parseGroup_253 (by decide) ?_
                      refine zj_dup2 (n := 256) rfl dX10_parseGroup_255 ?_
                      refine zj_ialoadN (e := v 8) (n := 257) rfl dX10_parseGroup_256 (by decide) rfl (by rw [show zLen 120 = 698 from rfl]; omega) (by rw [hA21.2.2 8 (by decide), hw8]) ?_
                      refine zj_iconstN_1 (n := 258) rfl dX10_parseGroup_257 ?_
                      refine zj_iaddN (n := 259) rfl dX10_parseGroup_258 ?_
                      refine zj_iastoreN (n := 260) rfl dX10_parseGroup_259 (by decide) rfl (by rw [show zLen 120 = 698 from rfl]; omega) ?_
                      refine zj_return dX10_parseGroup_260 rfl ?_
                      exact h _ _ hF21.put hP21.st hA21.set hwV
                  · refine zj_aload0 (n := 238) rfl dX10_parseGroup_237 ?_
                    refine zj_iconstN_5 (n := 239) rfl dX10_parseGroup_238 ?_
                    refine zj_callV1 (n := 242) (a' := 0) (b' := 0) rfl dX10_parseGroup_239 zm_X10_317 (by decide) (by decide) rfl (Nat.le_of_ble_eq_true rfl) (Nat.le_of_ble_eq_true rfl) (Nat.le_of_ble_eq_true rfl) (Nat.le_of_ble_eq_true rfl) (jX10_errs (hg18.pm hP17) (by decide) ?_)
                    intro M19 hG19 hP19
                    refine zj_gen (P := fun M20 => ∃ w, zHf M M20 ∧ zPm M20 n B (gp15 B n v s) ∧ zRA M20 120 w ∧ w 8 = v 8 ∧ ((sEnd B n (gp15 B n v s)).1 = 0 → vset w 8 (v 8 + 1) = vGrpF B n v s)) ⟨_, ((hg18.hf hF17).tr (zHf.of2 hG19)), (by rw [g15f hsem (by rw [c234] at hbs; cases hz : plS (vGrp B n v s) (v 8) (vsh (vGrp B n v s) (v 8)); rfl; rw [hz] at hbs; cases hbs)]; exact hP19), (hA18.gf hG19), (by rw [hu18 8 (by omega)]; exact hv8), (fun q => absurd (sEndOk q).1 (by rw [g15f hsem (by rw [c234] at hbs; cases hz : plS (vGrp B n v s) (v 8) (vsh (vGrp B n v s) (v 8)); rfl; rw [hz] at hbs; cases hbs), sRef_e q14]; simp))⟩ ?_
                    intro M20 h20
                    obtain ⟨w, hF21, hP21, hA21, hw8, hwV⟩ := h20
                    refine zj_aload0 (n := 243) rfl dX10_parseGroup_242 ?_
                    refine zj_callV0 (n := 246) (a' := 0) (b' := 0) rfl dX10_parseGroup_243 zm_X10_226 (by decide) (by decide) rfl (Nat.le_of_ble_eq_true rfl) (Nat.le_of_ble_eq_true rfl) (Nat.le_of_ble_eq_true rfl) (Nat.le_of_ble_eq_true rfl) (jX10_good hP21 ?_)
                    refine zj_ifB_eq (n := 249) (tgt := 260) rfl dX10_parseGroup_246 (by decide) (fun c246 => ?_) (fun c246 => ?_)
                    · exact zj_return dX10_parseGroup_260 rfl (h M20 w hF21 hP21 hA21 (fun q => absurd (sEndOk q).1 (of_decide_eq_false c246)))
                    · refine zj_aload0 (n := 250) rfl dX10_parseGroup_249 ?_
                      refine zj_getr (n := 253) (q := 120) rfl dX10_parseGroup_250 zf_X10_24 rfl (by decide) (by decide) hA21.now ?_
                      refine zj_bipushN (v := 8) (n := 255) rfl dX10_parseGroup_253 (by decide) ?_
                      refine zj_dup2 (n := 256) rfl dX10_parseGroup_255 ?_
                      refine zj_ialoadN (e := v 8) (n := 257) rfl dX10_parseGroup_256 (by decide) rfl (by rw [show zLen 120 = 698 from rfl]; omega) (by rw [hA21.2.2 8 (by decide), hw8]) ?_
                      refine zj_iconstN_1 (n := 258) rfl dX10_parseGroup_257 ?_
                      refine zj_iaddN (n := 259) rfl dX10_parseGroup_258 ?_
                      refine zj_iastoreN (n := 260) rfl dX10_parseGroup_259 (by decide) rfl (by rw [show zLen 120 = 698 from rfl]; omega) ?_
                      refine zj_return dX10_parseGroup_260 rfl ?_
                      exact h _ _ hF21.put hP21.st hA21.set hwV
          · refine zj_aload0 (n := 106) rfl dX10_parseGroup_105 ?_
            refine zj_iconstN_3 (n := 107) rfl dX10_parseGroup_106 ?_
            refine zj_callV1 (n := 110) (a' := 0) (b' := 0) rfl dX10_parseGroup_107 zm_X10_317 (by decide) (by decide) rfl (Nat.le_of_ble_eq_true rfl) (Nat.le_of_ble_eq_true rfl) (Nat.le_of_ble_eq_true rfl) (Nat.le_of_ble_eq_true rfl) (jX10_errs hP5 (by decide) ?_)
            intro M20 hG20 hP20
            refine zj_gen (P := fun M6 => zHf M M6 ∧ zPm M6 n B (gp4e B n v s) ∧ zRA M6 120 (vset (vlet v (268 + 23 * v 8 + 17) B (tS B n e2) (tE B n e2)) (268 + 23 * v 8 + 0) x5)) ⟨(hF5.tr (zHf.of2 hG20)), (by unfold gp4e; rw [c102]; exact hP20), (hA5.gf hG20)⟩ ?_
            intro M6 h6
            obtain ⟨hF6, hP6, hA6⟩ := h6
            refine zj_aload0 (n := 111) rfl dX10_parseGroup_110 ?_
            refine zj_callV0 (n := 114) (a' := 0) (b' := 0) rfl dX10_parseGroup_111 zm_X10_320 (by decide) (by decide) rfl (Nat.le_of_ble_eq_true rfl) (Nat.le_of_ble_eq_true rfl) (Nat.le_of_ble_eq_true rfl) (Nat.le_of_ble_eq_true rfl) (jX10_goOn hP6 ?_)
            intro M7 hG7 hP7
            have hF7 : zHf M M7 := hF6.tr (zHf.of hG7)
            have hA7 := hA6.gf hG7
            change zPm M7 n B (gp4 B n v s) at hP7
            refine zj_aload0 (n := 115) rfl dX10_parseGroup_114 ?_
            refine zj_getr (n := 118) (q := 120) rfl dX10_parseGroup_115 zf_X10_24 rfl (by decide) (by decide) hA7.now ?_
            refine zj_iload2 (n := 119) rfl dX10_parseGroup_118 ?_
            refine zj_iconstN_1 (n := 120) rfl dX10_parseGroup_119 ?_
            refine zj_iaddN (n := 121) rfl dX10_parseGroup_120 ?_
            refine zj_aload0 (n := 122) rfl dX10_parseGroup_121 ?_
            refine zj_ldcwS (i := 18) (n := 125) rfl dX10_parseGroup_122 rfl (by decide) rfl ?_
            refine zj_iconstN_0 (n := 126) rfl dX10_parseGroup_125 ?_
            refine zj_sipushN (v := 9999) (n := 129) rfl dX10_parseGroup_126 (by decide) ?_
            refine zj_callV3 (n := 132) (a' := 0) (b' := 0) rfl dX10_parseGroup_129 zm_X10_355 (by decide) (by decide) rfl (Nat.le_of_ble_eq_true rfl) (Nat.le_of_ble_eq_true rfl) (Nat.le_of_ble_eq_true rfl) (Nat.le_of_ble_eq_true rfl) (jX10_numberAfter hP7 (by decide) (by decide) (by decide) ?_)
            intro M8 x8 hx8b hG8 hP8 hx8
            have hF8 : zHf M M8 := hF7.tr (zHf.of hG8)
            have hA8 := hA7.gf hG8
            change zPm M8 n B (gp6 B n v s) at hP8
            refine zj_iastoreN (n := 133) rfl dX10_parseGroup_132 (by decide) rfl (by rw [show zLen 120 = 698 from rfl]; omega) ?_
            refine zj_gen (P := fun M9 => zHf M M9 ∧ zPm M9 n B (gp6 B n v s) ∧ zRA M9 120 (vset (vset (vlet v (268 + 23 * v 8 + 17) B (tS B n e2) (tE B n e2)) (268 + 23 * v 8 + 0) x5) (268 + 23 * v 8 + 1) x8)) ⟨hF8.put, hP8.st, hA8.set⟩ ?_
            intro M9 h9
            obtain ⟨hF9, hP9, hA9⟩ := h9
            refine zj_aload0 (n := 134) rfl dX10_parseGroup_133 ?_
            refine zj_getr (n := 137) (q := 120) rfl dX10_parseGroup_134 zf_X10_24 rfl (by decide) (by decide) hA9.now ?_
            refine zj_iload2 (n := 138) rfl dX10_parseGroup_137 ?_
            refine zj_iconstN_2 (n := 139) rfl dX10_parseGroup_138 ?_
            refine zj_iaddN (n := 140) rfl dX10_parseGroup_139 ?_
            refine zj_aload0 (n := 141) rfl dX10_parseGroup_140 ?_
            refine zj_ldcwS (i := 19) (n := 144) rfl dX10_parseGroup_141 rfl (by decide) rfl ?_
            refine zj_iconstN_1 (n := 145) rfl dX10_parseGroup_144 ?_
            refine zj_bipushN (v := 6) (n := 147) rfl dX10_parseGroup_145 (by decide) ?_
            refine zj_callV3 (n := 150) (a' := 0) (b' := 0) rfl dX10_parseGroup_147 zm_X10_355 (by decide) (by decide) rfl (Nat.le_of_ble_eq_true rfl) (Nat.le_of_ble_eq_true rfl) (Nat.le_of_ble_eq_true rfl) (Nat.le_of_ble_eq_true rfl) (jX10_numberAfter hP9 (by decide) (by decide) (by decide) ?_)
            intro M10 x10 hx10b hG10 hP10 hx10
            have hF10 : zHf M M10 := hF9.tr (zHf.of hG10)
            have hA10 := hA9.gf hG10
            change zPm M10 n B (gp8 B n v s) at hP10
            refine zj_iastoreN (n := 151) rfl dX10_parseGroup_150 (by decide) rfl (by rw [show zLen 120 = 698 from rfl]; omega) ?_
            refine zj_gen (P := fun M11 => zHf M M11 ∧ zPm M11 n B (gp8 B n v s) ∧ zRA M11 120 (vset (vset (vset (vlet v (268 + 23 * v 8 + 17) B (tS B n e2) (tE B n e2)) (268 + 23 * v 8 + 0) x5) (268 + 23 * v 8 + 1) x8) (268 + 23 * v 8 + 2) x10)) ⟨hF10.put, hP10.st, hA10.set⟩ ?_
            intro M11 h11
            obtain ⟨hF11, hP11, hA11⟩ := h11
            refine zj_aload0 (n := 152) rfl dX10_parseGroup_151 ?_
            refine zj_getr (n := 155) (q := 120) rfl dX10_parseGroup_152 zf_X10_24 rfl (by decide) (by decide) hA11.now ?_
            refine zj_iload2 (n := 156) rfl dX10_parseGroup_155 ?_
            refine zj_iconstN_3 (n := 157) rfl dX10_parseGroup_156 ?_
            refine zj_iaddN (n := 158) rfl dX10_parseGroup_157 ?_
            refine zj_aload0 (n := 159) rfl dX10_parseGroup_158 ?_
            refine zj_ldcwS (i := 20) (n := 162) rfl dX10_parseGroup_159 rfl (by decide) rfl ?_
            refine zj_iconstN_1 (n := 163) rfl dX10_parseGroup_162 ?_
            refine zj_iconstN_4 (n := 164) rfl dX10_parseGroup_163 ?_
            refine zj_callV3 (n := 167) (a' := 0) (b' := 0) rfl dX10_parseGroup_164 zm_X10_355 (by decide) (by decide) rfl (Nat.le_of_ble_eq_true rfl) (Nat.le_of_ble_eq_true rfl) (Nat.le_of_ble_eq_true rfl) (Nat.le_of_ble_eq_true rfl) (jX10_numberAfter hP11 (by decide) (by decide) (by decide) ?_)
            intro M12 x12 hx12b hG12 hP12 hx12
            have hF12 : zHf M M12 := hF11.tr (zHf.of hG12)
            have hA12 := hA11.gf hG12
            change zPm M12 n B (gp10 B n v s) at hP12
            refine zj_iastoreN (n := 168) rfl dX10_parseGroup_167 (by decide) rfl (by rw [show zLen 120 = 698 from rfl]; omega) ?_
            refine zj_gen (P := fun M13 => zHf M M13 ∧ zPm M13 n B (gp10 B n v s) ∧ zRA M13 120 (vset (vset (vset (vset (vlet v (268 + 23 * v 8 + 17) B (tS B n e2) (tE B n e2)) (268 + 23 * v 8 + 0) x5) (268 + 23 * v 8 + 1) x8) (268 + 23 * v 8 + 2) x10) (268 + 23 * v 8 + 3) x12)) ⟨hF12.put, hP12.st, hA12.set⟩ ?_
            intro M13 h13
            obtain ⟨hF13, hP13, hA13⟩ := h13
            refine zj_aload0 (n := 169) rfl dX10_parseGroup_168 ?_
            refine zj_getr (n := 172) (q := 120) rfl dX10_parseGroup_169 zf_X10_24 rfl (by decide) (by decide) hA13.now ?_
            refine zj_iload2 (n := 173) rfl dX10_parseGroup_172 ?_
            refine zj_iconstN_4 (n := 174) rfl dX10_parseGroup_173 ?_
            refine zj_iaddN (n := 175) rfl dX10_parseGroup_174 ?_
            refine zj_aload0 (n := 176) rfl dX10_parseGroup_175 ?_
            refine zj_ldcwS (i := 21) (n := 179) rfl dX10_parseGroup_176 rfl (by decide) rfl ?_
            refine zj_iconstN_1 (n := 180) rfl dX10_parseGroup_179 ?_
            refine zj_bipushN (v := 100) (n := 182) rfl dX10_parseGroup_180 (by decide) ?_
            refine zj_callV3 (n := 185) (a' := 0) (b' := 0) rfl dX10_parseGroup_182 zm_X10_355 (by decide) (by decide) rfl (Nat.le_of_ble_eq_true rfl) (Nat.le_of_ble_eq_true rfl) (Nat.le_of_ble_eq_true rfl) (Nat.le_of_ble_eq_true rfl) (jX10_numberAfter hP13 (by decide) (by decide) (by decide) ?_)
            intro M14 x14 hx14b hG14 hP14 hx14
            have hF14 : zHf M M14 := hF13.tr (zHf.of hG14)
            have hA14 := hA13.gf hG14
            change zPm M14 n B (gp12 B n v s) at hP14
            refine zj_iastoreN (n := 186) rfl dX10_parseGroup_185 (by decide) rfl (by rw [show zLen 120 = 698 from rfl]; omega) ?_
            refine zj_gen (P := fun M15 => zHf M M15 ∧ zPm M15 n B (gp12 B n v s) ∧ zRA M15 120 (vset (vset (vset (vset (vset (vlet v (268 + 23 * v 8 + 17) B (tS B n e2) (tE B n e2)) (268 + 23 * v 8 + 0) x5) (268 + 23 * v 8 + 1) x8) (268 + 23 * v 8 + 2) x10) (268 + 23 * v 8 + 3) x12) (268 + 23 * v 8 + 4) x14)) ⟨hF14.put, hP14.st, hA14.set⟩ ?_
            intro M15 h15
            obtain ⟨hF15, hP15, hA15⟩ := h15
            refine zj_aload0 (n := 187) rfl dX10_parseGroup_186 ?_
            refine zj_getr (n := 190) (q := 120) rfl dX10_parseGroup_187 zf_X10_24 rfl (by decide) (by decide) hA15.now ?_
            refine zj_iload2 (n := 191) rfl dX10_parseGroup_190 ?_
            refine zj_iconstN_5 (n := 192) rfl dX10_parseGroup_191 ?_
            refine zj_iaddN (n := 193) rfl dX10_parseGroup_192 ?_
            refine zj_aload0 (n := 194) rfl dX10_parseGroup_193 ?_
            refine zj_ldcwS (i := 22) (n := 197) rfl dX10_parseGroup_194 rfl (by decide) rfl ?_
            refine zj_iconstN_1 (n := 198) rfl dX10_parseGroup_197 ?_
            refine zj_sipushN (v := 9999) (n := 201) rfl dX10_parseGroup_198 (by decide) ?_
            refine zj_callV3 (n := 204) (a' := 0) (b' := 0) rfl dX10_parseGroup_201 zm_X10_355 (by decide) (by decide) rfl (Nat.le_of_ble_eq_true rfl) (Nat.le_of_ble_eq_true rfl) (Nat.le_of_ble_eq_true rfl) (Nat.le_of_ble_eq_true rfl) (jX10_numberAfter hP15 (by decide) (by decide) (by decide) ?_)
            intro M16 x16 hx16b hG16 hP16 hx16
            have hF16 : zHf M M16 := hF15.tr (zHf.of hG16)
            have hA16 := hA15.gf hG16
            change zPm M16 n B (gp14 B n v s) at hP16
            refine zj_iastoreN (n := 205) rfl dX10_parseGroup_204 (by decide) rfl (by rw [show zLen 120 = 698 from rfl]; omega) ?_
            refine zj_gen (P := fun M17 => zHf M M17 ∧ zPm M17 n B (gp14 B n v s) ∧ zRA M17 120 (vset (vset (vset (vset (vset (vset (vlet v (268 + 23 * v 8 + 17) B (tS B n e2) (tE B n e2)) (268 + 23 * v 8 + 0) x5) (268 + 23 * v 8 + 1) x8) (268 + 23 * v 8 + 2) x10) (268 + 23 * v 8 + 3) x12) (268 + 23 * v 8 + 4) x14) (268 + 23 * v 8 + 5) x16)) ⟨hF16.put, hP16.st, hA16.set⟩ ?_
            intro M17 h17
            obtain ⟨hF17, hP17, hA17⟩ := h17
            obtain ⟨hT17, -, -, -, -, e17, hen17, hK17, he17⟩ := id hP17
            have hts17 := tS_le (B := B) hen17
            have hk17 : tK B n e17 ≤ 3 := sK_le
            refine zj_aload0 (n := 206) rfl dX10_parseGroup_205 ?_
            refine zj_callV0 (n := 209) (a' := 0) (b' := 0) rfl dX10_parseGroup_206 zm_X10_226 (by decide) (by decide) rfl (Nat.le_of_ble_eq_true rfl) (Nat.le_of_ble_eq_true rfl) (Nat.le_of_ble_eq_true rfl) (Nat.le_of_ble_eq_true rfl) (jX10_good hP17 ?_)
            refine zj_ifB_eq (n := 212) (tgt := 242) rfl dX10_parseGroup_209 (by decide) (fun c209 => ?_) (fun c209 => ?_)
            · refine zj_gen (P := fun M20 => ∃ w, zHf M M20 ∧ zPm M20 n B (gp15 B n v s) ∧ zRA M20 120 w ∧ w 8 = v 8 ∧ ((sEnd B n (gp15 B n v s)).1 = 0 → vset w 8 (v 8 + 1) = vGrpF B n v s)) ⟨_, hF17, (by rw [g15n (of_decide_eq_false c209)]; exact hP17), hA17, (by rw [vset_off (by omega), vset_off (by omega), vset_off (by omega), vset_off (by omega), vset_off (by omega), vset_off (by omega), vlet_off (by omega)]), (fun q => absurd (sEndOk q).1 (by rw [g15n (of_decide_eq_false c209)]; exact of_decide_eq_false c209))⟩ ?_
              intro M20 h20
              obtain ⟨w, hF21, hP21, hA21, hw8, hwV⟩ := h20
              refine zj_aload0 (n := 243) rfl dX10_parseGroup_242 ?_
              refine zj_callV0 (n := 246) (a' := 0) (b' := 0) rfl dX10_parseGroup_243 zm_X10_226 (by decide) (by decide) rfl (Nat.le_of_ble_eq_true rfl) (Nat.le_of_ble_eq_true rfl) (Nat.le_of_ble_eq_true rfl) (Nat.le_of_ble_eq_true rfl) (jX10_good hP21 ?_)
              refine zj_ifB_eq (n := 249) (tgt := 260) rfl dX10_parseGroup_246 (by decide) (fun c246 => ?_) (fun c246 => ?_)
              · exact zj_return dX10_parseGroup_260 rfl (h M20 w hF21 hP21 hA21 (fun q => absurd (sEndOk q).1 (of_decide_eq_false c246)))
              · refine zj_aload0 (n := 250) rfl dX10_parseGroup_249 ?_
                refine zj_getr (n := 253) (q := 120) rfl dX10_parseGroup_250 zf_X10_24 rfl (by decide) (by decide) hA21.now ?_
                refine zj_bipushN (v := 8) (n := 255) rfl dX10_parseGroup_253 (by decide) ?_
                refine zj_dup2 (n := 256) rfl dX10_parseGroup_255 ?_
                refine zj_ialoadN (e := v 8) (n := 257) rfl dX10_parseGroup_256 (by decide) rfl (by rw [show zLen 120 = 698 from rfl]; omega) (by rw [hA21.2.2 8 (by decide), hw8]) ?_
                refine zj_iconstN_1 (n := 258) rfl dX10_parseGroup_257 ?_
                refine zj_iaddN (n := 259) rfl dX10_parseGroup_258 ?_
                refine zj_iastoreN (n := 260) rfl dX10_parseGroup_259 (by decide) rfl (by rw [show zLen 120 = 698 from rfl]; omega) ?_
                refine zj_return dX10_parseGroup_260 rfl ?_
                exact h _ _ hF21.put hP21.st hA21.set hwV
            · have q14 := of_decide_eq_true c209
              refine zj_aload0 (n := 213) rfl dX10_parseGroup_212 ?_
              refine zj_getiN (e := tK B n e17) (n := 216) rfl dX10_parseGroup_213 zf_X10_242 rfl (by decide) (by decide) hK17.1 ?_
              refine zj_iconstN_3 (n := 217) rfl dX10_parseGroup_216 ?_
              refine zj_icmpN_ne (n := 220) (tgt := 242) rfl dX10_parseGroup_217 (by decide) (by omega) (by omega) (fun c217 => ?_) (fun c217 => ?_)
              · refine zj_gen (P := fun M20 => ∃ w, zHf M M20 ∧ zPm M20 n B (gp15 B n v s) ∧ zRA M20 120 w ∧ w 8 = v 8 ∧ ((sEnd B n (gp15 B n v s)).1 = 0 → vset w 8 (v 8 + 1) = vGrpF B n v s)) ⟨_, hF17, (by rw [g15s (by unfold sSemi; rw [← he17 q14, beq_false_of_ne c217]; rfl)]; exact hP17), hA17, (by rw [vset_off (by omega), vset_off (by omega), vset_off (by omega), vset_off (by omega), vset_off (by omega), vset_off (by omega), vlet_off (by omega)]), (fun q => absurd (sEndOk q).2 (by rw [g15s (by unfold sSemi; rw [← he17 q14, beq_false_of_ne c217]; rfl)]; unfold sSemi; rw [← he17 q14, beq_false_of_ne c217]; simp))⟩ ?_
                intro M20 h20
                obtain ⟨w, hF21, hP21, hA21, hw8, hwV⟩ := h20
                refine zj_aload0 (n := 243) rfl dX10_parseGroup_242 ?_
                refine zj_callV0 (n := 246) (a' := 0) (b' := 0) rfl dX10_parseGroup_243 zm_X10_226 (by decide) (by decide) rfl (Nat.le_of_ble_eq_true rfl) (Nat.le_of_ble_eq_true rfl) (Nat.le_of_ble_eq_true rfl) (Nat.le_of_ble_eq_true rfl) (jX10_good hP21 ?_)
                refine zj_ifB_eq (n := 249) (tgt := 260) rfl dX10_parseGroup_246 (by decide) (fun c246 => ?_) (fun c246 => ?_)
                · exact zj_return dX10_parseGroup_260 rfl (h M20 w hF21 hP21 hA21 (fun q => absurd (sEndOk q).1 (of_decide_eq_false c246)))
                · refine zj_aload0 (n := 250) rfl dX10_parseGroup_249 ?_
                  refine zj_getr (n := 253) (q := 120) rfl dX10_parseGroup_250 zf_X10_24 rfl (by decide) (by decide) hA21.now ?_
                  refine zj_bipushN (v := 8) (n := 255) rfl dX10_parseGroup_253 (by decide) ?_
                  refine zj_dup2 (n := 256) rfl dX10_parseGroup_255 ?_
                  refine zj_ialoadN (e := v 8) (n := 257) rfl dX10_parseGroup_256 (by decide) rfl (by rw [show zLen 120 = 698 from rfl]; omega) (by rw [hA21.2.2 8 (by decide), hw8]) ?_
                  refine zj_iconstN_1 (n := 258) rfl dX10_parseGroup_257 ?_
                  refine zj_iaddN (n := 259) rfl dX10_parseGroup_258 ?_
                  refine zj_iastoreN (n := 260) rfl dX10_parseGroup_259 (by decide) rfl (by rw [show zLen 120 = 698 from rfl]; omega) ?_
                  refine zj_return dX10_parseGroup_260 rfl ?_
                  exact h _ _ hF21.put hP21.st hA21.set hwV
              · refine zj_aload0 (n := 221) rfl dX10_parseGroup_220 ?_
                refine zj_getiN (e := B (tS B n e17)) (n := 224) rfl dX10_parseGroup_221 zf_X10_253 rfl (by decide) (by decide) (hK17.2.2.2.2 c217) ?_
                have hsn17 : tS B n e17 < n := by
                  by_cases w : tS B n e17 < n
                  · exact w
                  · rw [show tK B n e17 = 0 from sK_0.mpr w] at c217; cases c217
                have hb17 := (hT17.2.2 _ hsn17).1
                refine zj_bipushN (v := 59) (n := 226) rfl dX10_parseGroup_224 (by decide) ?_
                refine zj_icmpN_ne (n := 229) (tgt := 242) rfl dX10_parseGroup_226 (by decide) (by omega) (by omega) (fun c226 => ?_) (fun c226 => ?_)
                · refine zj_gen (P := fun M20 => ∃ w, zHf M M20 ∧ zPm M20 n B (gp15 B n v s) ∧ zRA M20 120 w ∧ w 8 = v 8 ∧ ((sEnd B n (gp15 B n v s)).1 = 0 → vset w 8 (v 8 + 1) = vGrpF B n v s)) ⟨_, hF17, (by rw [g15s (by unfold sSemi; rw [← he17 q14, beq_false_of_ne c226, Bool.and_false])]; exact hP17), hA17, (by rw [vset_off (by omega), vset_off (by omega), vset_off (by omega), vset_off (by omega), vset_off (by omega), vset_off (by omega), vlet_off (by omega)]), (fun q => absurd (sEndOk q).2 (by rw [g15s (by unfold sSemi; rw [← he17 q14, beq_false_of_ne c226, Bool.and_false])]; unfold sSemi; rw [← he17 q14, beq_false_of_ne c226]; simp))⟩ ?_
                  intro M20 h20
                  obtain ⟨w, hF21, hP21, hA21, hw8, hwV⟩ := h20
                  refine zj_aload0 (n := 243) rfl dX10_parseGroup_242 ?_
                  refine zj_callV0 (n := 246) (a' := 0) (b' := 0) rfl dX10_parseGroup_243 zm_X10_226 (by decide) (by decide) rfl (Nat.le_of_ble_eq_true rfl) (Nat.le_of_ble_eq_true rfl) (Nat.le_of_ble_eq_true rfl) (Nat.le_of_ble_eq_true rfl) (jX10_good hP21 ?_)
                  refine zj_ifB_eq (n := 249) (tgt := 260) rfl dX10_parseGroup_246 (by decide) (fun c246 => ?_) (fun c246 => ?_)
                  · exact zj_return dX10_parseGroup_260 rfl (h M20 w hF21 hP21 hA21 (fun q => absurd (sEndOk q).1 (of_decide_eq_false c246)))
                  · refine zj_aload0 (n := 250) rfl dX10_parseGroup_249 ?_
                    refine zj_getr (n := 253) (q := 120) rfl dX10_parseGroup_250 zf_X10_24 rfl (by decide) (by decide) hA21.now ?_
                    refine zj_bipushN (v := 8) (n := 255) rfl dX10_parseGroup_253 (by decide) ?_
                    refine zj_dup2 (n := 256) rfl dX10_parseGroup_255 ?_
                    refine zj_ialoadN (e := v 8) (n := 257) rfl dX10_parseGroup_256 (by decide) rfl (by rw [show zLen 120 = 698 from rfl]; omega) (by rw [hA21.2.2 8 (by decide), hw8]) ?_
                    refine zj_iconstN_1 (n := 258) rfl dX10_parseGroup_257 ?_
                    refine zj_iaddN (n := 259) rfl dX10_parseGroup_258 ?_
                    refine zj_iastoreN (n := 260) rfl dX10_parseGroup_259 (by decide) rfl (by rw [show zLen 120 = 698 from rfl]; omega) ?_
                    refine zj_return dX10_parseGroup_260 rfl ?_
                    exact h _ _ hF21.put hP21.st hA21.set hwV
                · have hsem : sSemi B n (gp14 B n v s).2.2 = true := by unfold sSemi; rw [← he17 q14, c217, c226]; rfl
                  have q13 := (sNum_ok q14).1
                  have q12 := (sTake_ok q13).1
                  have q11 := (sNum_ok q12).1
                  have q10 := (sTake_ok q11).1
                  have q9 := (sNum_ok q10).1
                  have q8 := (sTake_ok q9).1
                  have q7 := (sNum_ok q8).1
                  have q6 := (sTake_ok q7).1
                  have q5 := (sNum_ok q6).1
                  have q4 := (sTake_ok q5).1
                  have q4e := (sErr_ok (by decide)).mp (sNext_ok.mp q4)
                  have q3 := ((sErr_ok (by decide)).mp q4e.1).1
                  have q2 := sNext_ok.mp (sTake_ok q3).1
                  have r2 := he2 q2
                  have r5 := hy5 q4e.1
                  have r8 := hx8 q6
                  have r10 := hx10 q8
                  have r12 := hx12 q10
                  have r14 := hx14 q12
                  have r16 := hx16 q14
                  have b8 := (sNum_ok q6).2.2
                  have b10 := (sNum_ok q8).2.2
                  have b12 := (sNum_ok q10).2.2
                  have b14 := (sNum_ok q12).2.2
                  have b16 := (sNum_ok q14).2.2
                  have eV : vset (vset (vset (vset (vset (vset (vlet v (268 + 23 * v 8 + 17) B (tS B n e2) (tE B n e2)) (268 + 23 * v 8 + 0) x5) (268 + 23 * v 8 + 1) x8) (268 + 23 * v 8 + 2) x10) (268 + 23 * v 8 + 3) x12) (268 + 23 * v 8 + 4) x14) (268 + 23 * v 8 + 5) x16 = vGrp B n v s := by
                    subst r2
                    have e5 : (gpt B n v s).getD 0 = x5 := by
                      cases q : gpt B n v s with
                      | none => have := q4e.2; rw [q] at this; cases this
                      | some t => exact (hz5 q4e.1 t q).symm
                    unfold vGrp
                    rw [e5, r8, r10, r12, r14, r16]
                    rfl
                  have hv8 : vGrp B n v s 8 = v 8 := by rw [← eV]; rw [vset_off (by omega), vset_off (by omega), vset_off (by omega), vset_off (by omega), vset_off (by omega), vset_off (by omega), vlet_off (by omega)]
                  have hA17v : zRA M17 120 (vGrp B n v s) := eV ▸ hA17
                  have hpq : zPq (vGrp B n v s) (v 8) := by
                    have hag : ∀ j, zAc v j → vGrp B n v s j = v j := fun j hj => by
                      unfold zAc at hj
                      rw [← eV]
                      rw [vset_off (by omega), vset_off (by omega), vset_off (by omega), vset_off (by omega), vset_off (by omega), vset_off (by omega), vlet_off (by omega)]
                    refine ⟨hW.ag hag, hv8, hlt, ?_, ?_⟩
                    · show vGrp B n v s (268 + 23 * v 8 + 2) + vGrp B n v s (268 + 23 * v 8 + 3) ≤ 10
                      unfold vGrp
                      rw [vset_off (show 268 + 23 * v 8 + 2 ≠ 268 + 23 * v 8 + 5 by omega), vset_off (show 268 + 23 * v 8 + 2 ≠ 268 + 23 * v 8 + 4 by omega), vset_off (show 268 + 23 * v 8 + 2 ≠ 268 + 23 * v 8 + 3 by omega), vset_at, vset_off (show 268 + 23 * v 8 + 3 ≠ 268 + 23 * v 8 + 5 by omega), vset_off (show 268 + 23 * v 8 + 3 ≠ 268 + 23 * v 8 + 4 by omega), vset_at]
                      have c10 : tN B n (gp7 B n v s).2.2 ≤ 6 := b10.2
                      have c12 : tN B n (gp9 B n v s).2.2 ≤ 4 := b12.2
                      omega
                    · unfold vGrp
                      rw [vset_off (by omega), vset_off (by omega), vset_off (by omega), vset_off (by omega), vset_at]
                      exact b8.2
                  refine zj_aload0 (n := 230) rfl dX10_parseGroup_229 ?_
                  refine zj_iload1 (n := 231) rfl dX10_parseGroup_230 ?_
                  refine zj_callV1 (n := 234) (a' := 0) (b' := 0) rfl dX10_parseGroup_231 zm_X10_360 (by decide) (by decide) rfl (Nat.le_of_ble_eq_true rfl) (Nat.le_of_ble_eq_true rfl) (Nat.le_of_ble_eq_true rfl) (Nat.le_of_ble_eq_true rfl) (jX10_isPlaced (v := vGrp B n v s) hA17v hpq ?_)
                  intro M18 u18 b18 hg18 hA18 hb18 hbs hu18
                  refine zj_ifB_ne (n := 237) (tgt := 242) rfl dX10_parseGroup_234 (by decide) (fun c234 => ?_) (fun c234 => ?_)
                  · obtain ⟨p9, hp9⟩ := hb18 c234
                    refine zj_gen (P := fun M20 => ∃ w, zHf M M20 ∧ zPm M20 n B (gp15 B n v s) ∧ zRA M20 120 w ∧ w 8 = v 8 ∧ ((sEnd B n (gp15 B n v s)).1 = 0 → vset w 8 (v 8 + 1) = vGrpF B n v s)) ⟨_, (hg18.hf hF17), (by rw [g15y hsem (by rw [hp9]; rfl)]; exact hg18.pm hP17), hA18, (by rw [hu18 8 (by omega)]; exact hv8), (fun _ => by unfold vGrpF; rw [hp9])⟩ ?_
                    intro M20 h20
                    obtain ⟨w, hF21, hP21, hA21, hw8, hwV⟩ := h20
                    refine zj_aload0 (n := 243) rfl dX10_parseGroup_242 ?_
                    refine zj_callV0 (n := 246) (a' := 0) (b' := 0) rfl dX10_parseGroup_243 zm_X10_226 (by decide) (by decide) rfl (Nat.le_of_ble_eq_true rfl) (Nat.le_of_ble_eq_true rfl) (Nat.le_of_ble_eq_true rfl) (Nat.le_of_ble_eq_true rfl) (jX10_good hP21 ?_)
                    refine zj_ifB_eq (n := 249) (tgt := 260) rfl dX10_parseGroup_246 (by decide) (fun c246 => ?_) (fun c246 => ?_)
                    · exact zj_return dX10_parseGroup_260 rfl (h M20 w hF21 hP21 hA21 (fun q => absurd (sEndOk q).1 (of_decide_eq_false c246)))
                    · refine zj_aload0 (n := 250) rfl dX10_parseGroup_249 ?_
                      refine zj_getr (n := 253) (q := 120) rfl dX10_parseGroup_250 zf_X10_24 rfl (by decide) (by decide) hA21.now ?_
                      refine zj_bipushN (v := 8) (n := 255) rfl dX10_parseGroup_253 (by decide) ?_
                      refine zj_dup2 (n := 256) rfl dX10_parseGroup_255 ?_
                      refine zj_ialoadN (e := v 8) (n := 257) rfl dX10_parseGroup_256 (by decide) rfl (by rw [show zLen 120 = 698 from rfl]; omega) (by rw [hA21.2.2 8 (by decide), hw8]) ?_
                      refine zj_iconstN_1 (n := 258) rfl dX10_parseGroup_257 ?_
                      refine zj_iaddN (n := 259) rfl dX10_parseGroup_258 ?_
                      refine zj_iastoreN (n := 260) rfl dX10_parseGroup_259 (by decide) rfl (by rw [show zLen 120 = 698 from rfl]; omega) ?_
                      refine zj_return dX10_parseGroup_260 rfl ?_
                      exact h _ _ hF21.put hP21.st hA21.set hwV
                  · refine zj_aload0 (n := 238) rfl dX10_parseGroup_237 ?_
                    refine zj_iconstN_5 (n := 239) rfl dX10_parseGroup_238 ?_
                    refine zj_callV1 (n := 242) (a' := 0) (b' := 0) rfl dX10_parseGroup_239 zm_X10_317 (by decide) (by decide) rfl (Nat.le_of_ble_eq_true rfl) (Nat.le_of_ble_eq_true rfl) (Nat.le_of_ble_eq_true rfl) (Nat.le_of_ble_eq_true rfl) (jX10_errs (hg18.pm hP17) (by decide) ?_)
                    intro M19 hG19 hP19
                    refine zj_gen (P := fun M20 => ∃ w, zHf M M20 ∧ zPm M20 n B (gp15 B n v s) ∧ zRA M20 120 w ∧ w 8 = v 8 ∧ ((sEnd B n (gp15 B n v s)).1 = 0 → vset w 8 (v 8 + 1) = vGrpF B n v s)) ⟨_, ((hg18.hf hF17).tr (zHf.of2 hG19)), (by rw [g15f hsem (by rw [c234] at hbs; cases hz : plS (vGrp B n v s) (v 8) (vsh (vGrp B n v s) (v 8)); rfl; rw [hz] at hbs; cases hbs)]; exact hP19), (hA18.gf hG19), (by rw [hu18 8 (by omega)]; exact hv8), (fun q => absurd (sEndOk q).1 (by rw [g15f hsem (by rw [c234] at hbs; cases hz : plS (vGrp B n v s) (v 8) (vsh (vGrp B n v s) (v 8)); rfl; rw [hz] at hbs; cases hbs), sRef_e q14]; simp))⟩ ?_
                    intro M20 h20
                    obtain ⟨w, hF21, hP21, hA21, hw8, hwV⟩ := h20
                    refine zj_aload0 (n := 243) rfl dX10_parseGroup_242 ?_
                    refine zj_callV0 (n := 246) (a' := 0) (b' := 0) rfl dX10_parseGroup_243 zm_X10_226 (by decide) (by decide) rfl (Nat.le_of_ble_eq_true rfl) (Nat.le_of_ble_eq_true rfl) (Nat.le_of_ble_eq_true rfl) (Nat.le_of_ble_eq_true rfl) (jX10_good hP21 ?_)
                    refine zj_ifB_eq (n := 249) (tgt := 260) rfl dX10_parseGroup_246 (by decide) (fun c246 => ?_) (fun c246 => ?_)
                    · exact zj_return dX10_parseGroup_260 rfl (h M20 w hF21 hP21 hA21 (fun q => absurd (sEndOk q).1 (of_decide_eq_false c246)))
                    · refine zj_aload0 (n := 250) rfl dX10_parseGroup_249 ?_
                      refine zj_getr (n := 253) (q := 120) rfl dX10_parseGroup_250 zf_X10_24 rfl (by decide) (by decide) hA21.now ?_
                      refine zj_bipushN (v := 8) (n := 255) rfl dX10_parseGroup_253 (by decide) ?_
                      refine zj_dup2 (n := 256) rfl dX10_parseGroup_255 ?_
                      refine zj_ialoadN (e := v 8) (n := 257) rfl dX10_parseGroup_256 (by decide) rfl (by rw [show zLen 120 = 698 from rfl]; omega) (by rw [hA21.2.2 8 (by decide), hw8]) ?_
                      refine zj_iconstN_1 (n := 258) rfl dX10_parseGroup_257 ?_
                      refine zj_iaddN (n := 259) rfl dX10_parseGroup_258 ?_
                      refine zj_iastoreN (n := 260) rfl dX10_parseGroup_259 (by decide) rfl (by rw [show zLen 120 = 698 from rfl]; omega) ?_
                      refine zj_return dX10_parseGroup_260 rfl ?_
                      exact h _ _ hF21.put hP21.st hA21.set hwV
    · refine zj_return dX10_parseGroup_24 rfl ?_
      have q1 := of_decide_eq_false c21
      have q10 := gp14_no (B := B) (n := n) (v := v) (s := s) q1
      have q14n : (gp14 B n v s).1 ≠ 0 := by rw [q10]; exact q1
      exact h M1 v hF1 (by rw [g15n q14n, q10]; exact hP1) hA1 (fun q => absurd (sEndOk q).1 (by rw [g15n q14n]; exact q14n))
  · refine zj_iconstN_1 (n := 14) rfl dX10_parseGroup_13 ?_
    refine zj_goto (tgt := 18) dX10_parseGroup_14 (by decide) ?_
    rw [show nI 1 = zb (decide (v 8 < 10)) from by rw [decide_eq_true (by omega)]; rfl]
    refine zj_callV1 (n := 21) (a' := 0) (b' := 0) rfl dX10_parseGroup_18 zm_X10_346 (by decide) (by decide) rfl (Nat.le_of_ble_eq_true rfl) (Nat.le_of_ble_eq_true rfl) (Nat.le_of_ble_eq_true rfl) (Nat.le_of_ble_eq_true rfl) (jX10_begins hP ?_)
    intro M1 hG1 hP1
    have hF1 : zHf M M1 := zHf.of hG1
    have hA1 := hA.gf hG1
    change zPm M1 n B (gp1 B n v s) at hP1
    refine zj_ifB_ne (n := 24) (tgt := 25) rfl dX10_parseGroup_21 (by decide) (fun c21 => ?_) (fun c21 => ?_)
    · have hlt : v 8 < 10 := by have q := ((sErr_ok (by decide)).mp (sNext_ok.mp (of_decide_eq_true c21))).2; simpa using q
      refine zj_aload0 (n := 26) rfl dX10_parseGroup_25 ?_
      refine zj_getr (n := 29) (q := 120) rfl dX10_parseGroup_26 zf_X10_24 rfl (by decide) (by decide) hA1.now ?_
      refine zj_bipushN (v := 8) (n := 31) rfl dX10_parseGroup_29 (by decide) ?_
      refine zj_ialoadN (e := v 8) (n := 32) rfl dX10_parseGroup_31 (by decide) rfl (by rw [show zLen 120 = 698 from rfl]; omega) (hA1.2.2 _ (by omega)) ?_
      refine zj_istore1 (n := 33) rfl dX10_parseGroup_32 rfl (Nat.le_of_ble_eq_true rfl) ?_
      refine zj_sipushN (v := 268) (n := 36) rfl dX10_parseGroup_33 (by decide) ?_
      refine zj_bipushN (v := 23) (n := 38) rfl dX10_parseGroup_36 (by decide) ?_
      refine zj_iload1 (n := 39) rfl dX10_parseGroup_38 ?_
      refine zj_imulN (n := 40) rfl dX10_parseGroup_39 ?_
      refine zj_iaddN (n := 41) rfl dX10_parseGroup_40 ?_
      refine zj_istore2 (n := 42) rfl dX10_parseGroup_41 rfl (Nat.le_of_ble_eq_true rfl) ?_
      refine zj_aload0 (n := 43) rfl dX10_parseGroup_42 ?_
      refine zj_iconstN_2 (n := 44) rfl dX10_parseGroup_43 ?_
      refine zj_iload2 (n := 45) rfl dX10_parseGroup_44 ?_
      refine zj_bipushN (v := 17) (n := 47) rfl dX10_parseGroup_45 (by decide) ?_
      refine zj_iaddN (n := 48) rfl dX10_parseGroup_47 ?_
      refine zj_callV2 (n := 51) (a' := 0) (b' := 0) rfl dX10_parseGroup_48 zm_X10_349 (by decide) (by decide) rfl (Nat.le_of_ble_eq_true rfl) (Nat.le_of_ble_eq_true rfl) (Nat.le_of_ble_eq_true rfl) (Nat.le_of_ble_eq_true rfl) (jX10_newName hP1 hA1 hW hN (by decide) (by omega) ?_)
      intro M2 e2 he2 hG2 hP2 hA2
      have hF2 : zHf M M2 := hF1.tr hG2
      change zPm M2 n B (gp2 B n v s) at hP2
      refine zj_aload0 (n := 52) rfl dX10_parseGroup_51 ?_
      refine zj_ldcwS (i := 17) (n := 55) rfl dX10_parseGroup_52 rfl (by decide) rfl ?_
      refine zj_callV1 (n := 58) (a' := 0) (b' := 0) rfl dX10_parseGroup_55 zm_X10_323 (by decide) (by decide) rfl (Nat.le_of_ble_eq_true rfl) (Nat.le_of_ble_eq_true rfl) (Nat.le_of_ble_eq_true rfl) (Nat.le_of_ble_eq_true rfl) (jX10_word hP2 (by decide) ?_)
      intro M3 hG3 hP3
      have hF3 : zHf M M3 := hF2.tr (zHf.of hG3)
      have hA3 := hA2.gf hG3
      change zPm M3 n B (gp3 B n v s) at hP3
      refine zj_aload0 (n := 59) rfl dX10_parseGroup_58 ?_
      refine zj_callV0 (n := 62) (a' := 0) (b' := 0) rfl dX10_parseGroup_59 zm_X10_340 (by decide) (by decide) rfl (Nat.le_of_ble_eq_true rfl) (Nat.le_of_ble_eq_true rfl) (Nat.le_of_ble_eq_true rfl) (Nat.le_of_ble_eq_true rfl) (jX10_checkName hP3 ?_)
      intro M4 hG4 hP4
      have hF4 : zHf M M4 := hF3.tr (zHf.of2 hG4)
      have hA4 := hA3.gf hG4
      change zPm M4 n B (gp4c B n v s) at hP4
      refine zj_aload0 (n := 63) rfl dX10_parseGroup_62 ?_
      refine zj_getr (n := 66) (q := 120) rfl dX10_parseGroup_63 zf_X10_24 rfl (by decide) (by decide) hA4.now ?_
      refine zj_iload2 (n := 67) rfl dX10_parseGroup_66 ?_
      refine zj_iconstN_0 (n := 68) rfl dX10_parseGroup_67 ?_
      refine zj_iaddN (n := 69) rfl dX10_parseGroup_68 ?_
      refine zj_aload0 (n := 70) rfl dX10_parseGroup_69 ?_
      refine zj_callV0 (n := 73) (a' := 0) (b' := 0) rfl dX10_parseGroup_70 zm_X10_226 (by decide) (by decide) rfl (Nat.le_of_ble_eq_true rfl) (Nat.le_of_ble_eq_true rfl) (Nat.le_of_ble_eq_true rfl) (Nat.le_of_ble_eq_true rfl) (jX10_good hP4 ?_)
      refine zj_ifB_eq (n := 76) (tgt := 84) rfl dX10_parseGroup_73 (by decide) (fun c73 => ?_) (fun c73 => ?_)
      · refine zj_iconstN_0 (n := 85) rfl dX10_parseGroup_84 ?_
        obtain ⟨x5, hx5, hy5, hz5⟩ : ∃ x5, nI x5 = nI 0 ∧ ((gp4c B n v s).1 = 0 → nI x5 = zo (gpt B n v s)) ∧ ((gp4c B n v s).1 = 0 → ∀ t, gpt B n v s = some t → x5 = t) := ⟨0, rfl, fun q => absurd q (of_decide_eq_false c73), fun q => absurd q (of_decide_eq_false c73)⟩
        rw [← hx5]
        refine zj_iastoreN (n := 86) rfl dX10_parseGroup_85 (by decide) rfl (by rw [show zLen 120 = 698 from rfl]; omega) ?_
        refine zj_gen (P := fun M5 => zHf M M5 ∧ zPm M5 n B (gp4c B n v s) ∧ zRA M5 120 (vset (vlet v (268 + 23 * v 8 + 17) B (tS B n e2) (tE B n e2)) (268 + 23 * v 8 + 0) x5)) ⟨hF4.put, hP4.st, hA4.set⟩ ?_
        intro M5 h5
        obtain ⟨hF5, hP5, hA5⟩ := h5
        refine zj_aload0 (n := 87) rfl dX10_parseGroup_86 ?_
        refine zj_callV0 (n := 90) (a' := 0) (b' := 0) rfl dX10_parseGroup_87 zm_X10_226 (by decide) (by decide) rfl (Nat.le_of_ble_eq_true rfl) (Nat.le_of_ble_eq_true rfl) (Nat.le_of_ble_eq_true rfl) (Nat.le_of_ble_eq_true rfl) (jX10_good hP5 ?_)
        refine zj_ifB_eq (n := 93) (tgt := 110) rfl dX10_parseGroup_90 (by decide) (fun c90 => ?_) (fun c90 => ?_)
        · refine zj_gen (P := fun M6 => zHf M M6 ∧ zPm M6 n B (gp4e B n v s) ∧ zRA M6 120 (vset (vlet v (268 + 23 * v 8 + 17) B (tS B n e2) (tE B n e2)) (268 + 23 * v 8 + 0) x5)) ⟨hF5, (by unfold gp4e; rw [sErr_no (of_decide_eq_false c90)]; exact hP5), hA5⟩ ?_
          intro M6 h6
          obtain ⟨hF6, hP6, hA6⟩ := h6
          refine zj_aload0 (n := 111) rfl dX10_parseGroup_110 ?_
          refine zj_callV0 (n := 114) (a' := 0) (b' := 0) rfl dX10_parseGroup_111 zm_X10_320 (by decide) (by decide) rfl (Nat.le_of_ble_eq_true rfl) (Nat.le_of_ble_eq_true rfl) (Nat.le_of_ble_eq_true rfl) (Nat.le_of_ble_eq_true rfl) (jX10_goOn hP6 ?_)
          intro M7 hG7 hP7
          have hF7 : zHf M M7 := hF6.tr (zHf.of hG7)
          have hA7 := hA6.gf hG7
          change zPm M7 n B (gp4 B n v s) at hP7
          refine zj_aload0 (n := 115) rfl dX10_parseGroup_114 ?_
          refine zj_getr (n := 118) (q := 120) rfl dX10_parseGroup_115 zf_X10_24 rfl (by decide) (by decide) hA7.now ?_
          refine zj_iload2 (n := 119) rfl dX10_parseGroup_118 ?_
          refine zj_iconstN_1 (n := 120) rfl dX10_parseGroup_119 ?_
          refine zj_iaddN (n := 121) rfl dX10_parseGroup_120 ?_
          refine zj_aload0 (n := 122) rfl dX10_parseGroup_121 ?_
          refine zj_ldcwS (i := 18) (n := 125) rfl dX10_parseGroup_122 rfl (by decide) rfl ?_
          refine zj_iconstN_0 (n := 126) rfl dX10_parseGroup_125 ?_
          refine zj_sipushN (v := 9999) (n := 129) rfl dX10_parseGroup_126 (by decide) ?_
          refine zj_callV3 (n := 132) (a' := 0) (b' := 0) rfl dX10_parseGroup_129 zm_X10_355 (by decide) (by decide) rfl (Nat.le_of_ble_eq_true rfl) (Nat.le_of_ble_eq_true rfl) (Nat.le_of_ble_eq_true rfl) (Nat.le_of_ble_eq_true rfl) (jX10_numberAfter hP7 (by decide) (by decide) (by decide) ?_)
          intro M8 x8 hx8b hG8 hP8 hx8
          have hF8 : zHf M M8 := hF7.tr (zHf.of hG8)
          have hA8 := hA7.gf hG8
          change zPm M8 n B (gp6 B n v s) at hP8
          refine zj_iastoreN (n := 133) rfl dX10_parseGroup_132 (by decide) rfl (by rw [show zLen 120 = 698 from rfl]; omega) ?_
          refine zj_gen (P := fun M9 => zHf M M9 ∧ zPm M9 n B (gp6 B n v s) ∧ zRA M9 120 (vset (vset (vlet v (268 + 23 * v 8 + 17) B (tS B n e2) (tE B n e2)) (268 + 23 * v 8 + 0) x5) (268 + 23 * v 8 + 1) x8)) ⟨hF8.put, hP8.st, hA8.set⟩ ?_
          intro M9 h9
          obtain ⟨hF9, hP9, hA9⟩ := h9
          refine zj_aload0 (n := 134) rfl dX10_parseGroup_133 ?_
          refine zj_getr (n := 137) (q := 120) rfl dX10_parseGroup_134 zf_X10_24 rfl (by decide) (by decide) hA9.now ?_
          refine zj_iload2 (n := 138) rfl dX10_parseGroup_137 ?_
          refine zj_iconstN_2 (n := 139) rfl dX10_parseGroup_138 ?_
          refine zj_iaddN (n := 140) rfl dX10_parseGroup_139 ?_
          refine zj_aload0 (n := 141) rfl dX10_parseGroup_140 ?_
          refine zj_ldcwS (i := 19) (n := 144) rfl dX10_parseGroup_141 rfl (by decide) rfl ?_
          refine zj_iconstN_1 (n := 145) rfl dX10_parseGroup_144 ?_
          refine zj_bipushN (v := 6) (n := 147) rfl dX10_parseGroup_145 (by decide) ?_
          refine zj_callV3 (n := 150) (a' := 0) (b' := 0) rfl dX10_parseGroup_147 zm_X10_355 (by decide) (by decide) rfl (Nat.le_of_ble_eq_true rfl) (Nat.le_of_ble_eq_true rfl) (Nat.le_of_ble_eq_true rfl) (Nat.le_of_ble_eq_true rfl) (jX10_numberAfter hP9 (by decide) (by decide) (by decide) ?_)
          intro M10 x10 hx10b hG10 hP10 hx10
          have hF10 : zHf M M10 := hF9.tr (zHf.of hG10)
          have hA10 := hA9.gf hG10
          change zPm M10 n B (gp8 B n v s) at hP10
          refine zj_iastoreN (n := 151) rfl dX10_parseGroup_150 (by decide) rfl (by rw [show zLen 120 = 698 from rfl]; omega) ?_
          refine zj_gen (P := fun M11 => zHf M M11 ∧ zPm M11 n B (gp8 B n v s) ∧ zRA M11 120 (vset (vset (vset (vlet v (268 + 23 * v 8 + 17) B (tS B n e2) (tE B n e2)) (268 + 23 * v 8 + 0) x5) (268 + 23 * v 8 + 1) x8) (268 + 23 * v 8 + 2) x10)) ⟨hF10.put, hP10.st, hA10.set⟩ ?_
          intro M11 h11
          obtain ⟨hF11, hP11, hA11⟩ := h11
          refine zj_aload0 (n := 152) rfl dX10_parseGroup_151 ?_
          refine zj_getr (n := 155) (q := 120) rfl dX10_parseGroup_152 zf_X10_24 rfl (by decide) (by decide) hA11.now ?_
          refine zj_iload2 (n := 156) rfl dX10_parseGroup_155 ?_
          refine zj_iconstN_3 (n := 157) rfl dX10_parseGroup_156 ?_
          refine zj_iaddN (n := 158) rfl dX10_parseGroup_157 ?_
          refine zj_aload0 (n := 159) rfl dX10_parseGroup_158 ?_
          refine zj_ldcwS (i := 20) (n := 162) rfl dX10_parseGroup_159 rfl (by decide) rfl ?_
          refine zj_iconstN_1 (n := 163) rfl dX10_parseGroup_162 ?_
          refine zj_iconstN_4 (n := 164) rfl dX10_parseGroup_163 ?_
          refine zj_callV3 (n := 167) (a' := 0) (b' := 0) rfl dX10_parseGroup_164 zm_X10_355 (by decide) (by decide) rfl (Nat.le_of_ble_eq_true rfl) (Nat.le_of_ble_eq_true rfl) (Nat.le_of_ble_eq_true rfl) (Nat.le_of_ble_eq_true rfl) (jX10_numberAfter hP11 (by decide) (by decide) (by decide) ?_)
          intro M12 x12 hx12b hG12 hP12 hx12
          have hF12 : zHf M M12 := hF11.tr (zHf.of hG12)
          have hA12 := hA11.gf hG12
          change zPm M12 n B (gp10 B n v s) at hP12
          refine zj_iastoreN (n := 168) rfl dX10_parseGroup_167 (by decide) rfl (by rw [show zLen 120 = 698 from rfl]; omega) ?_
          refine zj_gen (P := fun M13 => zHf M M13 ∧ zPm M13 n B (gp10 B n v s) ∧ zRA M13 120 (vset (vset (vset (vset (vlet v (268 + 23 * v 8 + 17) B (tS B n e2) (tE B n e2)) (268 + 23 * v 8 + 0) x5) (268 + 23 * v 8 + 1) x8) (268 + 23 * v 8 + 2) x10) (268 + 23 * v 8 + 3) x12)) ⟨hF12.put, hP12.st, hA12.set⟩ ?_
          intro M13 h13
          obtain ⟨hF13, hP13, hA13⟩ := h13
          refine zj_aload0 (n := 169) rfl dX10_parseGroup_168 ?_
          refine zj_getr (n := 172) (q := 120) rfl dX10_parseGroup_169 zf_X10_24 rfl (by decide) (by decide) hA13.now ?_
          refine zj_iload2 (n := 173) rfl dX10_parseGroup_172 ?_
          refine zj_iconstN_4 (n := 174) rfl dX10_parseGroup_173 ?_
          refine zj_iaddN (n := 175) rfl dX10_parseGroup_174 ?_
          refine zj_aload0 (n := 176) rfl dX10_parseGroup_175 ?_
          refine zj_ldcwS (i := 21) (n := 179) rfl dX10_parseGroup_176 rfl (by decide) rfl ?_
          refine zj_iconstN_1 (n := 180) rfl dX10_parseGroup_179 ?_
          refine zj_bipushN (v := 100) (n := 182) rfl dX10_parseGroup_180 (by decide) ?_
          refine zj_callV3 (n := 185) (a' := 0) (b' := 0) rfl dX10_parseGroup_182 zm_X10_355 (by decide) (by decide) rfl (Nat.le_of_ble_eq_true rfl) (Nat.le_of_ble_eq_true rfl) (Nat.le_of_ble_eq_true rfl) (Nat.le_of_ble_eq_true rfl) (jX10_numberAfter hP13 (by decide) (by decide) (by decide) ?_)
          intro M14 x14 hx14b hG14 hP14 hx14
          have hF14 : zHf M M14 := hF13.tr (zHf.of hG14)
          have hA14 := hA13.gf hG14
          change zPm M14 n B (gp12 B n v s) at hP14
          refine zj_iastoreN (n := 186) rfl dX10_parseGroup_185 (by decide) rfl (by rw [show zLen 120 = 698 from rfl]; omega) ?_
          refine zj_gen (P := fun M15 => zHf M M15 ∧ zPm M15 n B (gp12 B n v s) ∧ zRA M15 120 (vset (vset (vset (vset (vset (vlet v (268 + 23 * v 8 + 17) B (tS B n e2) (tE B n e2)) (268 + 23 * v 8 + 0) x5) (268 + 23 * v 8 + 1) x8) (268 + 23 * v 8 + 2) x10) (268 + 23 * v 8 + 3) x12) (268 + 23 * v 8 + 4) x14)) ⟨hF14.put, hP14.st, hA14.set⟩ ?_
          intro M15 h15
          obtain ⟨hF15, hP15, hA15⟩ := h15
          refine zj_aload0 (n := 187) rfl dX10_parseGroup_186 ?_
          refine zj_getr (n := 190) (q := 120) rfl dX10_parseGroup_187 zf_X10_24 rfl (by decide) (by decide) hA15.now ?_
          refine zj_iload2 (n := 191) rfl dX10_parseGroup_190 ?_
          refine zj_iconstN_5 (n := 192) rfl dX10_parseGroup_191 ?_
          refine zj_iaddN (n := 193) rfl dX10_parseGroup_192 ?_
          refine zj_aload0 (n := 194) rfl dX10_parseGroup_193 ?_
          refine zj_ldcwS (i := 22) (n := 197) rfl dX10_parseGroup_194 rfl (by decide) rfl ?_
          refine zj_iconstN_1 (n := 198) rfl dX10_parseGroup_197 ?_
          refine zj_sipushN (v := 9999) (n := 201) rfl dX10_parseGroup_198 (by decide) ?_
          refine zj_callV3 (n := 204) (a' := 0) (b' := 0) rfl dX10_parseGroup_201 zm_X10_355 (by decide) (by decide) rfl (Nat.le_of_ble_eq_true rfl) (Nat.le_of_ble_eq_true rfl) (Nat.le_of_ble_eq_true rfl) (Nat.le_of_ble_eq_true rfl) (jX10_numberAfter hP15 (by decide) (by decide) (by decide) ?_)
          intro M16 x16 hx16b hG16 hP16 hx16
          have hF16 : zHf M M16 := hF15.tr (zHf.of hG16)
          have hA16 := hA15.gf hG16
          change zPm M16 n B (gp14 B n v s) at hP16
          refine zj_iastoreN (n := 205) rfl dX10_parseGroup_204 (by decide) rfl (by rw [show zLen 120 = 698 from rfl]; omega) ?_
          refine zj_gen (P := fun M17 => zHf M M17 ∧ zPm M17 n B (gp14 B n v s) ∧ zRA M17 120 (vset (vset (vset (vset (vset (vset (vlet v (268 + 23 * v 8 + 17) B (tS B n e2) (tE B n e2)) (268 + 23 * v 8 + 0) x5) (268 + 23 * v 8 + 1) x8) (268 + 23 * v 8 + 2) x10) (268 + 23 * v 8 + 3) x12) (268 + 23 * v 8 + 4) x14) (268 + 23 * v 8 + 5) x16)) ⟨hF16.put, hP16.st, hA16.set⟩ ?_
          intro M17 h17
          obtain ⟨hF17, hP17, hA17⟩ := h17
          obtain ⟨hT17, -, -, -, -, e17, hen17, hK17, he17⟩ := id hP17
          have hts17 := tS_le (B := B) hen17
          have hk17 : tK B n e17 ≤ 3 := sK_le
          refine zj_aload0 (n := 206) rfl dX10_parseGroup_205 ?_
          refine zj_callV0 (n := 209) (a' := 0) (b' := 0) rfl dX10_parseGroup_206 zm_X10_226 (by decide) (by decide) rfl (Nat.le_of_ble_eq_true rfl) (Nat.le_of_ble_eq_true rfl) (Nat.le_of_ble_eq_true rfl) (Nat.le_of_ble_eq_true rfl) (jX10_good hP17 ?_)
          refine zj_ifB_eq (n := 212) (tgt := 242) rfl dX10_parseGroup_209 (by decide) (fun c209 => ?_) (fun c209 => ?_)
          · refine zj_gen (P := fun M20 => ∃ w, zHf M M20 ∧ zPm M20 n B (gp15 B n v s) ∧ zRA M20 120 w ∧ w 8 = v 8 ∧ ((sEnd B n (gp15 B n v s)).1 = 0 → vset w 8 (v 8 + 1) = vGrpF B n v s)) ⟨_, hF17, (by rw [g15n (of_decide_eq_false c209)]; exact hP17), hA17, (by rw [vset_off (by omega), vset_off (by omega), vset_off (by omega), vset_off (by omega), vset_off (by omega), vset_off (by omega), vlet_off (by omega)]), (fun q => absurd (sEndOk q).1 (by rw [g15n (of_decide_eq_false c209)]; exact of_decide_eq_false c209))⟩ ?_
            intro M20 h20
            obtain ⟨w, hF21, hP21, hA21, hw8, hwV⟩ := h20
            refine zj_aload0 (n := 243) rfl dX10_parseGroup_242 ?_
            refine zj_callV0 (n := 246) (a' := 0) (b' := 0) rfl dX10_parseGroup_243 zm_X10_226 (by decide) (by decide) rfl (Nat.le_of_ble_eq_true rfl) (Nat.le_of_ble_eq_true rfl) (Nat.le_of_ble_eq_true rfl) (Nat.le_of_ble_eq_true rfl) (jX10_good hP21 ?_)
            refine zj_ifB_eq (n := 249) (tgt := 260) rfl dX10_parseGroup_246 (by decide) (fun c246 => ?_) (fun c246 => ?_)
            · exact zj_return dX10_parseGroup_260 rfl (h M20 w hF21 hP21 hA21 (fun q => absurd (sEndOk q).1 (of_decide_eq_false c246)))
            · refine zj_aload0 (n := 250) rfl dX10_parseGroup_249 ?_
              refine zj_getr (n := 253) (q := 120) rfl dX10_parseGroup_250 zf_X10_24 rfl (by decide) (by decide) hA21.now ?_
              refine zj_bipushN (v := 8) (n := 255) rfl dX10_parseGroup_253 (by decide) ?_
              refine zj_dup2 (n := 256) rfl dX10_parseGroup_255 ?_
              refine zj_ialoadN (e := v 8) (n := 257) rfl dX10_parseGroup_256 (by decide) rfl (by rw [show zLen 120 = 698 from rfl]; omega) (by rw [hA21.2.2 8 (by decide), hw8]) ?_
              refine zj_iconstN_1 (n := 258) rfl dX10_parseGroup_257 ?_
              refine zj_iaddN (n := 259) rfl dX10_parseGroup_258 ?_
              refine zj_iastoreN (n := 260) rfl dX10_parseGroup_259 (by decide) rfl (by rw [show zLen 120 = 698 from rfl]; omega) ?_
              refine zj_return dX10_parseGroup_260 rfl ?_
              exact h _ _ hF21.put hP21.st hA21.set hwV
          · have q14 := of_decide_eq_true c209
            refine zj_aload0 (n := 213) rfl dX10_parseGroup_212 ?_
            refine zj_getiN (e := tK B n e17) (n := 216) rfl dX10_parseGroup_213 zf_X10_242 rfl (by decide) (by decide) hK17.1 ?_
            refine zj_iconstN_3 (n := 217) rfl dX10_parseGroup_216 ?_
            refine zj_icmpN_ne (n := 220) (tgt := 242) rfl dX10_parseGroup_217 (by decide) (by omega) (by omega) (fun c217 => ?_) (fun c217 => ?_)
            · refine zj_gen (P := fun M20 => ∃ w, zHf M M20 ∧ zPm M20 n B (gp15 B n v s) ∧ zRA M20 120 w ∧ w 8 = v 8 ∧ ((sEnd B n (gp15 B n v s)).1 = 0 → vset w 8 (v 8 + 1) = vGrpF B n v s)) ⟨_, hF17, (by rw [g15s (by unfold sSemi; rw [← he17 q14, beq_false_of_ne c217]; rfl)]; exact hP17), hA17, (by rw [vset_off (by omega), vset_off (by omega), vset_off (by omega), vset_off (by omega), vset_off (by omega), vset_off (by omega), vlet_off (by omega)]), (fun q => absurd (sEndOk q).2 (by rw [g15s (by unfold sSemi; rw [← he17 q14, beq_false_of_ne c217]; rfl)]; unfold sSemi; rw [← he17 q14, beq_false_of_ne c217]; simp))⟩ ?_
              intro M20 h20
              obtain ⟨w, hF21, hP21, hA21, hw8, hwV⟩ := h20
              refine zj_aload0 (n := 243) rfl dX10_parseGroup_242 ?_
              refine zj_callV0 (n := 246) (a' := 0) (b' := 0) rfl dX10_parseGroup_243 zm_X10_226 (by decide) (by decide) rfl (Nat.le_of_ble_eq_true rfl) (Nat.le_of_ble_eq_true rfl) (Nat.le_of_ble_eq_true rfl) (Nat.le_of_ble_eq_true rfl) (jX10_good hP21 ?_)
              refine zj_ifB_eq (n := 249) (tgt := 260) rfl dX10_parseGroup_246 (by decide) (fun c246 => ?_) (fun c246 => ?_)
              · exact zj_return dX10_parseGroup_260 rfl (h M20 w hF21 hP21 hA21 (fun q => absurd (sEndOk q).1 (of_decide_eq_false c246)))
              · refine zj_aload0 (n := 250) rfl dX10_parseGroup_249 ?_
                refine zj_getr (n := 253) (q := 120) rfl dX10_parseGroup_250 zf_X10_24 rfl (by decide) (by decide) hA21.now ?_
                refine zj_bipushN (v := 8) (n := 255) rfl dX10_parseGroup_253 (by decide) ?_
                refine zj_dup2 (n := 256) rfl dX10_parseGroup_255 ?_
                refine zj_ialoadN (e := v 8) (n := 257) rfl dX10_parseGroup_256 (by decide) rfl (by rw [show zLen 120 = 698 from rfl]; omega) (by rw [hA21.2.2 8 (by decide), hw8]) ?_
                refine zj_iconstN_1 (n := 258) rfl dX10_parseGroup_257 ?_
                refine zj_iaddN (n := 259) rfl dX10_parseGroup_258 ?_
                refine zj_iastoreN (n := 260) rfl dX10_parseGroup_259 (by decide) rfl (by rw [show zLen 120 = 698 from rfl]; omega) ?_
                refine zj_return dX10_parseGroup_260 rfl ?_
                exact h _ _ hF21.put hP21.st hA21.set hwV
            · refine zj_aload0 (n := 221) rfl dX10_parseGroup_220 ?_
              refine zj_getiN (e := B (tS B n e17)) (n := 224) rfl dX10_parseGroup_221 zf_X10_253 rfl (by decide) (by decide) (hK17.2.2.2.2 c217) ?_
              have hsn17 : tS B n e17 < n := by
                by_cases w : tS B n e17 < n
                · exact w
                · rw [show tK B n e17 = 0 from sK_0.mpr w] at c217; cases c217
              have hb17 := (hT17.2.2 _ hsn17).1
              refine zj_bipushN (v := 59) (n := 226) rfl dX10_parseGroup_224 (by decide) ?_
              refine zj_icmpN_ne (n := 229) (tgt := 242) rfl dX10_parseGroup_226 (by decide) (by omega) (by omega) (fun c226 => ?_) (fun c226 => ?_)
              · refine zj_gen (P := fun M20 => ∃ w, zHf M M20 ∧ zPm M20 n B (gp15 B n v s) ∧ zRA M20 120 w ∧ w 8 = v 8 ∧ ((sEnd B n (gp15 B n v s)).1 = 0 → vset w 8 (v 8 + 1) = vGrpF B n v s)) ⟨_, hF17, (by rw [g15s (by unfold sSemi; rw [← he17 q14, beq_false_of_ne c226, Bool.and_false])]; exact hP17), hA17, (by rw [vset_off (by omega), vset_off (by omega), vset_off (by omega), vset_off (by omega), vset_off (by omega), vset_off (by omega), vlet_off (by omega)]), (fun q => absurd (sEndOk q).2 (by rw [g15s (by unfold sSemi; rw [← he17 q14, beq_false_of_ne c226, Bool.and_false])]; unfold sSemi; rw [← he17 q14, beq_false_of_ne c226]; simp))⟩ ?_
                intro M20 h20
                obtain ⟨w, hF21, hP21, hA21, hw8, hwV⟩ := h20
                refine zj_aload0 (n := 243) rfl dX10_parseGroup_242 ?_
                refine zj_callV0 (n := 246) (a' := 0) (b' := 0) rfl dX10_parseGroup_243 zm_X10_226 (by decide) (by decide) rfl (Nat.le_of_ble_eq_true rfl) (Nat.le_of_ble_eq_true rfl) (Nat.le_of_ble_eq_true rfl) (Nat.le_of_ble_eq_true rfl) (jX10_good hP21 ?_)
                refine zj_ifB_eq (n := 249) (tgt := 260) rfl dX10_parseGroup_246 (by decide) (fun c246 => ?_) (fun c246 => ?_)
                · exact zj_return dX10_parseGroup_260 rfl (h M20 w hF21 hP21 hA21 (fun q => absurd (sEndOk q).1 (of_decide_eq_false c246)))
                · refine zj_aload0 (n := 250) rfl dX10_parseGroup_249 ?_
                  refine zj_getr (n := 253) (q := 120) rfl dX10_parseGroup_250 zf_X10_24 rfl (by decide) (by decide) hA21.now ?_
                  refine zj_bipushN (v := 8) (n := 255) rfl dX10_parseGroup_253 (by decide) ?_
                  refine zj_dup2 (n := 256) rfl dX10_parseGroup_255 ?_
                  refine zj_ialoadN (e := v 8) (n := 257) rfl dX10_parseGroup_256 (by decide) rfl (by rw [show zLen 120 = 698 from rfl]; omega) (by rw [hA21.2.2 8 (by decide), hw8]) ?_
                  refine zj_iconstN_1 (n := 258) rfl dX10_parseGroup_257 ?_
                  refine zj_iaddN (n := 259) rfl dX10_parseGroup_258 ?_
                  refine zj_iastoreN (n := 260) rfl dX10_parseGroup_259 (by decide) rfl (by rw [show zLen 120 = 698 from rfl]; omega) ?_
                  refine zj_return dX10_parseGroup_260 rfl ?_
                  exact h _ _ hF21.put hP21.st hA21.set hwV
              · have hsem : sSemi B n (gp14 B n v s).2.2 = true := by unfold sSemi; rw [← he17 q14, c217, c226]; rfl
                have q13 := (sNum_ok q14).1
                have q12 := (sTake_ok q13).1
                have q11 := (sNum_ok q12).1
                have q10 := (sTake_ok q11).1
                have q9 := (sNum_ok q10).1
                have q8 := (sTake_ok q9).1
                have q7 := (sNum_ok q8).1
                have q6 := (sTake_ok q7).1
                have q5 := (sNum_ok q6).1
                have q4 := (sTake_ok q5).1
                have q4e := (sErr_ok (by decide)).mp (sNext_ok.mp q4)
                have q3 := ((sErr_ok (by decide)).mp q4e.1).1
                have q2 := sNext_ok.mp (sTake_ok q3).1
                have r2 := he2 q2
                have r5 := hy5 q4e.1
                have r8 := hx8 q6
                have r10 := hx10 q8
                have r12 := hx12 q10
                have r14 := hx14 q12
                have r16 := hx16 q14
                have b8 := (sNum_ok q6).2.2
                have b10 := (sNum_ok q8).2.2
                have b12 := (sNum_ok q10).2.2
                have b14 := (sNum_ok q12).2.2
                have b16 := (sNum_ok q14).2.2
                have eV : vset (vset (vset (vset (vset (vset (vlet v (268 + 23 * v 8 + 17) B (tS B n e2) (tE B n e2)) (268 + 23 * v 8 + 0) x5) (268 + 23 * v 8 + 1) x8) (268 + 23 * v 8 + 2) x10) (268 + 23 * v 8 + 3) x12) (268 + 23 * v 8 + 4) x14) (268 + 23 * v 8 + 5) x16 = vGrp B n v s := by
                  subst r2
                  have e5 : (gpt B n v s).getD 0 = x5 := by
                    cases q : gpt B n v s with
                    | none => have := q4e.2; rw [q] at this; cases this
                    | some t => exact (hz5 q4e.1 t q).symm
                  unfold vGrp
                  rw [e5, r8, r10, r12, r14, r16]
                  rfl
                have hv8 : vGrp B n v s 8 = v 8 := by rw [← eV]; rw [vset_off (by omega), vset_off (by omega), vset_off (by omega), vset_off (by omega), vset_off (by omega), vset_off (by omega), vlet_off (by omega)]
                have hA17v : zRA M17 120 (vGrp B n v s) := eV ▸ hA17
                have hpq : zPq (vGrp B n v s) (v 8) := by
                  have hag : ∀ j, zAc v j → vGrp B n v s j = v j := fun j hj => by
                    unfold zAc at hj
                    rw [← eV]
                    rw [vset_off (by omega), vset_off (by omega), vset_off (by omega), vset_off (by omega), vset_off (by omega), vset_off (by omega), vlet_off (by omega)]
                  refine ⟨hW.ag hag, hv8, hlt, ?_, ?_⟩
                  · show vGrp B n v s (268 + 23 * v 8 + 2) + vGrp B n v s (268 + 23 * v 8 + 3) ≤ 10
                    unfold vGrp
                    rw [vset_off (show 268 + 23 * v 8 + 2 ≠ 268 + 23 * v 8 + 5 by omega), vset_off (show 268 + 23 * v 8 + 2 ≠ 268 + 23 * v 8 + 4 by omega), vset_off (show 268 + 23 * v 8 + 2 ≠ 268 + 23 * v 8 + 3 by omega), vset_at, vset_off (show 268 + 23 * v 8 + 3 ≠ 268 + 23 * v 8 + 5 by omega), vset_off (show 268 + 23 * v 8 + 3 ≠ 268 + 23 * v 8 + 4 by omega), vset_at]
                    have c10 : tN B n (gp7 B n v s).2.2 ≤ 6 := b10.2
                    have c12 : tN B n (gp9 B n v s).2.2 ≤ 4 := b12.2
                    omega
                  · unfold vGrp
                    rw [vset_off (by omega), vset_off (by omega), vset_off (by omega), vset_off (by omega), vset_at]
                    exact b8.2
                refine zj_aload0 (n := 230) rfl dX10_parseGroup_229 ?_
                refine zj_iload1 (n := 231) rfl dX10_parseGroup_230 ?_
                refine zj_callV1 (n := 234) (a' := 0) (b' := 0) rfl dX10_parseGroup_231 zm_X10_360 (by decide) (by decide) rfl (Nat.le_of_ble_eq_true rfl) (Nat.le_of_ble_eq_true rfl) (Nat.le_of_ble_eq_true rfl) (Nat.le_of_ble_eq_true rfl) (jX10_isPlaced (v := vGrp B n v s) hA17v hpq ?_)
                intro M18 u18 b18 hg18 hA18 hb18 hbs hu18
                refine zj_ifB_ne (n := 237) (tgt := 242) rfl dX10_parseGroup_234 (by decide) (fun c234 => ?_) (fun c234 => ?_)
                · obtain ⟨p9, hp9⟩ := hb18 c234
                  refine zj_gen (P := fun M20 => ∃ w, zHf M M20 ∧ zPm M20 n B (gp15 B n v s) ∧ zRA M20 120 w ∧ w 8 = v 8 ∧ ((sEnd B n (gp15 B n v s)).1 = 0 → vset w 8 (v 8 + 1) = vGrpF B n v s)) ⟨_, (hg18.hf hF17), (by rw [g15y hsem (by rw [hp9]; rfl)]; exact hg18.pm hP17), hA18, (by rw [hu18 8 (by omega)]; exact hv8), (fun _ => by unfold vGrpF; rw [hp9])⟩ ?_
                  intro M20 h20
                  obtain ⟨w, hF21, hP21, hA21, hw8, hwV⟩ := h20
                  refine zj_aload0 (n := 243) rfl dX10_parseGroup_242 ?_
                  refine zj_callV0 (n := 246) (a' := 0) (b' := 0) rfl dX10_parseGroup_243 zm_X10_226 (by decide) (by decide) rfl (Nat.le_of_ble_eq_true rfl) (Nat.le_of_ble_eq_true rfl) (Nat.le_of_ble_eq_true rfl) (Nat.le_of_ble_eq_true rfl) (jX10_good hP21 ?_)
                  refine zj_ifB_eq (n := 249) (tgt := 260) rfl dX10_parseGroup_246 (by decide) (fun c246 => ?_) (fun c246 => ?_)
                  · exact zj_return dX10_parseGroup_260 rfl (h M20 w hF21 hP21 hA21 (fun q => absurd (sEndOk q).1 (of_decide_eq_false c246)))
                  · refine zj_aload0 (n := 250) rfl dX10_parseGroup_249 ?_
                    refine zj_getr (n := 253) (q := 120) rfl dX10_parseGroup_250 zf_X10_24 rfl (by decide) (by decide) hA21.now ?_
                    refine zj_bipushN (v := 8) (n := 255) rfl dX10_parseGroup_253 (by decide) ?_
                    refine zj_dup2 (n := 256) rfl dX10_parseGroup_255 ?_
                    refine zj_ialoadN (e := v 8) (n := 257) rfl dX10_parseGroup_256 (by decide) rfl (by rw [show zLen 120 = 698 from rfl]; omega) (by rw [hA21.2.2 8 (by decide), hw8]) ?_
                    refine zj_iconstN_1 (n := 258) rfl dX10_parseGroup_257 ?_
                    refine zj_iaddN (n := 259) rfl dX10_parseGroup_258 ?_
                    refine zj_iastoreN (n := 260) rfl dX10_parseGroup_259 (by decide) rfl (by rw [show zLen 120 = 698 from rfl]; omega) ?_
                    refine zj_return dX10_parseGroup_260 rfl ?_
                    exact h _ _ hF21.put hP21.st hA21.set hwV
                · refine zj_aload0 (n := 238) rfl dX10_parseGroup_237 ?_
                  refine zj_iconstN_5 (n := 239) rfl dX10_parseGroup_238 ?_
                  refine zj_callV1 (n := 242) (a' := 0) (b' := 0) rfl dX10_parseGroup_239 zm_X10_317 (by decide) (by decide) rfl (Nat.le_of_ble_eq_true rfl) (Nat.le_of_ble_eq_true rfl) (Nat.le_of_ble_eq_true rfl) (Nat.le_of_ble_eq_true rfl) (jX10_errs (hg18.pm hP17) (by decide) ?_)
                  intro M19 hG19 hP19
                  refine zj_gen (P := fun M20 => ∃ w, zHf M M20 ∧ zPm M20 n B (gp15 B n v s) ∧ zRA M20 120 w ∧ w 8 = v 8 ∧ ((sEnd B n (gp15 B n v s)).1 = 0 → vset w 8 (v 8 + 1) = vGrpF B n v s)) ⟨_, ((hg18.hf hF17).tr (zHf.of2 hG19)), (by rw [g15f hsem (by rw [c234] at hbs; cases hz : plS (vGrp B n v s) (v 8) (vsh (vGrp B n v s) (v 8)); rfl; rw [hz] at hbs; cases hbs)]; exact hP19), (hA18.gf hG19), (by rw [hu18 8 (by omega)]; exact hv8), (fun q => absurd (sEndOk q).1 (by rw [g15f hsem (by rw [c234] at hbs; cases hz : plS (vGrp B n v s) (v 8) (vsh (vGrp B n v s) (v 8)); rfl; rw [hz] at hbs; cases hbs), sRef_e q14]; simp))⟩ ?_
                  intro M20 h20
                  obtain ⟨w, hF21, hP21, hA21, hw8, hwV⟩ := h20
                  refine zj_aload0 (n := 243) rfl dX10_parseGroup_242 ?_
                  refine zj_callV0 (n := 246) (a' := 0) (b' := 0) rfl dX10_parseGroup_243 zm_X10_226 (by decide) (by decide) rfl (Nat.le_of_ble_eq_true rfl) (Nat.le_of_ble_eq_true rfl) (Nat.le_of_ble_eq_true rfl) (Nat.le_of_ble_eq_true rfl) (jX10_good hP21 ?_)
                  refine zj_ifB_eq (n := 249) (tgt := 260) rfl dX10_parseGroup_246 (by decide) (fun c246 => ?_) (fun c246 => ?_)
                  · exact zj_return dX10_parseGroup_260 rfl (h M20 w hF21 hP21 hA21 (fun q => absurd (sEndOk q).1 (of_decide_eq_false c246)))
                  · refine zj_aload0 (n := 250) rfl dX10_parseGroup_249 ?_
                    refine zj_getr (n := 253) (q := 120) rfl dX10_parseGroup_250 zf_X10_24 rfl (by decide) (by decide) hA21.now ?_
                    refine zj_bipushN (v := 8) (n := 255) rfl dX10_parseGroup_253 (by decide) ?_
                    refine zj_dup2 (n := 256) rfl dX10_parseGroup_255 ?_
                    refine zj_ialoadN (e := v 8) (n := 257) rfl dX10_parseGroup_256 (by decide) rfl (by rw [show zLen 120 = 698 from rfl]; omega) (by rw [hA21.2.2 8 (by decide), hw8]) ?_
                    refine zj_iconstN_1 (n := 258) rfl dX10_parseGroup_257 ?_
                    refine zj_iaddN (n := 259) rfl dX10_parseGroup_258 ?_
                    refine zj_iastoreN (n := 260) rfl dX10_parseGroup_259 (by decide) rfl (by rw [show zLen 120 = 698 from rfl]; omega) ?_
                    refine zj_return dX10_parseGroup_260 rfl ?_
                    exact h _ _ hF21.put hP21.st hA21.set hwV
        · refine zj_aload0 (n := 94) rfl dX10_parseGroup_93 ?_
          refine zj_getr (n := 97) (q := 120) rfl dX10_parseGroup_94 zf_X10_24 rfl (by decide) (by decide) hA5.now ?_
          refine zj_iload2 (n := 98) rfl dX10_parseGroup_97 ?_
          refine zj_iconstN_0 (n := 99) rfl dX10_parseGroup_98 ?_
          refine zj_iaddN (n := 100) rfl dX10_parseGroup_99 ?_
          refine zj_ialoadN (e := x5) (n := 101) rfl dX10_parseGroup_100 (by decide) rfl (by rw [show zLen 120 = 698 from rfl]; omega) (by rw [hA5.2.2 _ (by omega), vset_at]) ?_
          rw [hy5 (of_decide_eq_true c90)]
          refine zj_iconst_m1 (n := 102) rfl dX10_parseGroup_101 ?_
          refine zj_icmpO_ne (n := 105) (tgt := 110) rfl dX10_parseGroup_102 (by decide) (fun m hm => by have := kfind_lt hW (by decide) hm; omega) (fun m102 c102 => ?_) (fun c102 => ?_)
          · refine zj_gen (P := fun M6 => zHf M M6 ∧ zPm M6 n B (gp4e B n v s) ∧ zRA M6 120 (vset (vlet v (268 + 23 * v 8 + 17) B (tS B n e2) (tE B n e2)) (268 + 23 * v 8 + 0) x5)) ⟨hF5, (by unfold gp4e; rw [c102, sErr_eq (show (some m102).isNone = false from rfl)]; exact hP5), hA5⟩ ?_
            intro M6 h6
            obtain ⟨hF6, hP6, hA6⟩ := h6
            refine zj_aload0 (n := 111) rfl dX10_parseGroup_110 ?_
            refine zj_callV0 (n := 114) (a' := 0) (b' := 0) rfl dX10_parseGroup_111 zm_X10_320 (by decide) (by decide) rfl (Nat.le_of_ble_eq_true rfl) (Nat.le_of_ble_eq_true rfl) (Nat.le_of_ble_eq_true rfl) (Nat.le_of_ble_eq_true rfl) (jX10_goOn hP6 ?_)
            intro M7 hG7 hP7
            have hF7 : zHf M M7 := hF6.tr (zHf.of hG7)
            have hA7 := hA6.gf hG7
            change zPm M7 n B (gp4 B n v s) at hP7
            refine zj_aload0 (n := 115) rfl dX10_parseGroup_114 ?_
            refine zj_getr (n := 118) (q := 120) rfl dX10_parseGroup_115 zf_X10_24 rfl (by decide) (by decide) hA7.now ?_
            refine zj_iload2 (n := 119) rfl dX10_parseGroup_118 ?_
            refine zj_iconstN_1 (n := 120) rfl dX10_parseGroup_119 ?_
            refine zj_iaddN (n := 121) rfl dX10_parseGroup_120 ?_
            refine zj_aload0 (n := 122) rfl dX10_parseGroup_121 ?_
            refine zj_ldcwS (i := 18) (n := 125) rfl dX10_parseGroup_122 rfl (by decide) rfl ?_
            refine zj_iconstN_0 (n := 126) rfl dX10_parseGroup_125 ?_
            refine zj_sipushN (v := 9999) (n := 129) rfl dX10_parseGroup_126 (by decide) ?_
            refine zj_callV3 (n := 132) (a' := 0) (b' := 0) rfl dX10_parseGroup_129 zm_X10_355 (by decide) (by decide) rfl (Nat.le_of_ble_eq_true rfl) (Nat.le_of_ble_eq_true rfl) (Nat.le_of_ble_eq_true rfl) (Nat.le_of_ble_eq_true rfl) (jX10_numberAfter hP7 (by decide) (by decide) (by decide) ?_)
            intro M8 x8 hx8b hG8 hP8 hx8
            have hF8 : zHf M M8 := hF7.tr (zHf.of hG8)
            have hA8 := hA7.gf hG8
            change zPm M8 n B (gp6 B n v s) at hP8
            refine zj_iastoreN (n := 133) rfl dX10_parseGroup_132 (by decide) rfl (by rw [show zLen 120 = 698 from rfl]; omega) ?_
            refine zj_gen (P := fun M9 => zHf M M9 ∧ zPm M9 n B (gp6 B n v s) ∧ zRA M9 120 (vset (vset (vlet v (268 + 23 * v 8 + 17) B (tS B n e2) (tE B n e2)) (268 + 23 * v 8 + 0) x5) (268 + 23 * v 8 + 1) x8)) ⟨hF8.put, hP8.st, hA8.set⟩ ?_
            intro M9 h9
            obtain ⟨hF9, hP9, hA9⟩ := h9
            refine zj_aload0 (n := 134) rfl dX10_parseGroup_133 ?_
            refine zj_getr (n := 137) (q := 120) rfl dX10_parseGroup_134 zf_X10_24 rfl (by decide) (by decide) hA9.now ?_
            refine zj_iload2 (n := 138) rfl dX10_parseGroup_137 ?_
            refine zj_iconstN_2 (n := 139) rfl dX10_parseGroup_138 ?_
            refine zj_iaddN (n := 140) rfl dX10_parseGroup_139 ?_
            refine zj_aload0 (n := 141) rfl dX10_parseGroup_140 ?_
            refine zj_ldcwS (i := 19) (n := 144) rfl dX10_parseGroup_141 rfl (by decide) rfl ?_
            refine zj_iconstN_1 (n := 145) rfl dX10_parseGroup_144 ?_
            refine zj_bipushN (v := 6) (n := 147) rfl dX10_parseGroup_145 (by decide) ?_
            refine zj_callV3 (n := 150) (a' := 0) (b' := 0) rfl dX10_parseGroup_147 zm_X10_355 (by decide) (by decide) rfl (Nat.le_of_ble_eq_true rfl) (Nat.le_of_ble_eq_true rfl) (Nat.le_of_ble_eq_true rfl) (Nat.le_of_ble_eq_true rfl) (jX10_numberAfter hP9 (by decide) (by decide) (by decide) ?_)
            intro M10 x10 hx10b hG10 hP10 hx10
            have hF10 : zHf M M10 := hF9.tr (zHf.of hG10)
            have hA10 := hA9.gf hG10
            change zPm M10 n B (gp8 B n v s) at hP10
            refine zj_iastoreN (n := 151) rfl dX10_parseGroup_150 (by decide) rfl (by rw [show zLen 120 = 698 from rfl]; omega) ?_
            refine zj_gen (P := fun M11 => zHf M M11 ∧ zPm M11 n B (gp8 B n v s) ∧ zRA M11 120 (vset (vset (vset (vlet v (268 + 23 * v 8 + 17) B (tS B n e2) (tE B n e2)) (268 + 23 * v 8 + 0) x5) (268 + 23 * v 8 + 1) x8) (268 + 23 * v 8 + 2) x10)) ⟨hF10.put, hP10.st, hA10.set⟩ ?_
            intro M11 h11
            obtain ⟨hF11, hP11, hA11⟩ := h11
            refine zj_aload0 (n := 152) rfl dX10_parseGroup_151 ?_
            refine zj_getr (n := 155) (q := 120) rfl dX10_parseGroup_152 zf_X10_24 rfl (by decide) (by decide) hA11.now ?_
            refine zj_iload2 (n := 156) rfl dX10_parseGroup_155 ?_
            refine zj_iconstN_3 (n := 157) rfl dX10_parseGroup_156 ?_
            refine zj_iaddN (n := 158) rfl dX10_parseGroup_157 ?_
            refine zj_aload0 (n := 159) rfl dX10_parseGroup_158 ?_
            refine zj_ldcwS (i := 20) (n := 162) rfl dX10_parseGroup_159 rfl (by decide) rfl ?_
            refine zj_iconstN_1 (n := 163) rfl dX10_parseGroup_162 ?_
            refine zj_iconstN_4 (n := 164) rfl dX10_parseGroup_163 ?_
            refine zj_callV3 (n := 167) (a' := 0) (b' := 0) rfl dX10_parseGroup_164 zm_X10_355 (by decide) (by decide) rfl (Nat.le_of_ble_eq_true rfl) (Nat.le_of_ble_eq_true rfl) (Nat.le_of_ble_eq_true rfl) (Nat.le_of_ble_eq_true rfl) (jX10_numberAfter hP11 (by decide) (by decide) (by decide) ?_)
            intro M12 x12 hx12b hG12 hP12 hx12
            have hF12 : zHf M M12 := hF11.tr (zHf.of hG12)
            have hA12 := hA11.gf hG12
            change zPm M12 n B (gp10 B n v s) at hP12
            refine zj_iastoreN (n := 168) rfl dX10_parseGroup_167 (by decide) rfl (by rw [show zLen 120 = 698 from rfl]; omega) ?_
            refine zj_gen (P := fun M13 => zHf M M13 ∧ zPm M13 n B (gp10 B n v s) ∧ zRA M13 120 (vset (vset (vset (vset (vlet v (268 + 23 * v 8 + 17) B (tS B n e2) (tE B n e2)) (268 + 23 * v 8 + 0) x5) (268 + 23 * v 8 + 1) x8) (268 + 23 * v 8 + 2) x10) (268 + 23 * v 8 + 3) x12)) ⟨hF12.put, hP12.st, hA12.set⟩ ?_
            intro M13 h13
            obtain ⟨hF13, hP13, hA13⟩ := h13
            refine zj_aload0 (n := 169) rfl dX10_parseGroup_168 ?_
            refine zj_getr (n := 172) (q := 120) rfl dX10_parseGroup_169 zf_X10_24 rfl (by decide) (by decide) hA13.now ?_
            refine zj_iload2 (n := 173) rfl dX10_parseGroup_172 ?_
            refine zj_iconstN_4 (n := 174) rfl dX10_parseGroup_173 ?_
            refine zj_iaddN (n := 175) rfl dX10_parseGroup_174 ?_
            refine zj_aload0 (n := 176) rfl dX10_parseGroup_175 ?_
            refine zj_ldcwS (i := 21) (n := 179) rfl dX10_parseGroup_176 rfl (by decide) rfl ?_
            refine zj_iconstN_1 (n := 180) rfl dX10_parseGroup_179 ?_
            refine zj_bipushN (v := 100) (n := 182) rfl dX10_parseGroup_180 (by decide) ?_
            refine zj_callV3 (n := 185) (a' := 0) (b' := 0) rfl dX10_parseGroup_182 zm_X10_355 (by decide) (by decide) rfl (Nat.le_of_ble_eq_true rfl) (Nat.le_of_ble_eq_true rfl) (Nat.le_of_ble_eq_true rfl) (Nat.le_of_ble_eq_true rfl) (jX10_numberAfter hP13 (by decide) (by decide) (by decide) ?_)
            intro M14 x14 hx14b hG14 hP14 hx14
            have hF14 : zHf M M14 := hF13.tr (zHf.of hG14)
            have hA14 := hA13.gf hG14
            change zPm M14 n B (gp12 B n v s) at hP14
            refine zj_iastoreN (n := 186) rfl dX10_parseGroup_185 (by decide) rfl (by rw [show zLen 120 = 698 from rfl]; omega) ?_
            refine zj_gen (P := fun M15 => zHf M M15 ∧ zPm M15 n B (gp12 B n v s) ∧ zRA M15 120 (vset (vset (vset (vset (vset (vlet v (268 + 23 * v 8 + 17) B (tS B n e2) (tE B n e2)) (268 + 23 * v 8 + 0) x5) (268 + 23 * v 8 + 1) x8) (268 + 23 * v 8 + 2) x10) (268 + 23 * v 8 + 3) x12) (268 + 23 * v 8 + 4) x14)) ⟨hF14.put, hP14.st, hA14.set⟩ ?_
            intro M15 h15
            obtain ⟨hF15, hP15, hA15⟩ := h15
            refine zj_aload0 (n := 187) rfl dX10_parseGroup_186 ?_
            refine zj_getr (n := 190) (q := 120) rfl dX10_parseGroup_187 zf_X10_24 rfl (by decide) (by decide) hA15.now ?_
            refine zj_iload2 (n := 191) rfl dX10_parseGroup_190 ?_
            refine zj_iconstN_5 (n := 192) rfl dX10_parseGroup_191 ?_
            refine zj_iaddN (n := 193) rfl dX10_parseGroup_192 ?_
            refine zj_aload0 (n := 194) rfl dX10_parseGroup_193 ?_
            refine zj_ldcwS (i := 22) (n := 197) rfl dX10_parseGroup_194 rfl (by decide) rfl ?_
            refine zj_iconstN_1 (n := 198) rfl dX10_parseGroup_197 ?_
            refine zj_sipushN (v := 9999) (n := 201) rfl dX10_parseGroup_198 (by decide) ?_
            refine zj_callV3 (n := 204) (a' := 0) (b' := 0) rfl dX10_parseGroup_201 zm_X10_355 (by decide) (by decide) rfl (Nat.le_of_ble_eq_true rfl) (Nat.le_of_ble_eq_true rfl) (Nat.le_of_ble_eq_true rfl) (Nat.le_of_ble_eq_true rfl) (jX10_numberAfter hP15 (by decide) (by decide) (by decide) ?_)
            intro M16 x16 hx16b hG16 hP16 hx16
            have hF16 : zHf M M16 := hF15.tr (zHf.of hG16)
            have hA16 := hA15.gf hG16
            change zPm M16 n B (gp14 B n v s) at hP16
            refine zj_iastoreN (n := 205) rfl dX10_parseGroup_204 (by decide) rfl (by rw [show zLen 120 = 698 from rfl]; omega) ?_
            refine zj_gen (P := fun M17 => zHf M M17 ∧ zPm M17 n B (gp14 B n v s) ∧ zRA M17 120 (vset (vset (vset (vset (vset (vset (vlet v (268 + 23 * v 8 + 17) B (tS B n e2) (tE B n e2)) (268 + 23 * v 8 + 0) x5) (268 + 23 * v 8 + 1) x8) (268 + 23 * v 8 + 2) x10) (268 + 23 * v 8 + 3) x12) (268 + 23 * v 8 + 4) x14) (268 + 23 * v 8 + 5) x16)) ⟨hF16.put, hP16.st, hA16.set⟩ ?_
            intro M17 h17
            obtain ⟨hF17, hP17, hA17⟩ := h17
            obtain ⟨hT17, -, -, -, -, e17, hen17, hK17, he17⟩ := id hP17
            have hts17 := tS_le (B := B) hen17
            have hk17 : tK B n e17 ≤ 3 := sK_le
            refine zj_aload0 (n := 206) rfl dX10_parseGroup_205 ?_
            refine zj_callV0 (n := 209) (a' := 0) (b' := 0) rfl dX10_parseGroup_206 zm_X10_226 (by decide) (by decide) rfl (Nat.le_of_ble_eq_true rfl) (Nat.le_of_ble_eq_true rfl) (Nat.le_of_ble_eq_true rfl) (Nat.le_of_ble_eq_true rfl) (jX10_good hP17 ?_)
            refine zj_ifB_eq (n := 212) (tgt := 242) rfl dX10_parseGroup_209 (by decide) (fun c209 => ?_) (fun c209 => ?_)
            · refine zj_gen (P := fun M20 => ∃ w, zHf M M20 ∧ zPm M20 n B (gp15 B n v s) ∧ zRA M20 120 w ∧ w 8 = v 8 ∧ ((sEnd B n (gp15 B n v s)).1 = 0 → vset w 8 (v 8 + 1) = vGrpF B n v s)) ⟨_, hF17, (by rw [g15n (of_decide_eq_false c209)]; exact hP17), hA17, (by rw [vset_off (by omega), vset_off (by omega), vset_off (by omega), vset_off (by omega), vset_off (by omega), vset_off (by omega), vlet_off (by omega)]), (fun q => absurd (sEndOk q).1 (by rw [g15n (of_decide_eq_false c209)]; exact of_decide_eq_false c209))⟩ ?_
              intro M20 h20
              obtain ⟨w, hF21, hP21, hA21, hw8, hwV⟩ := h20
              refine zj_aload0 (n := 243) rfl dX10_parseGroup_242 ?_
              refine zj_callV0 (n := 246) (a' := 0) (b' := 0) rfl dX10_parseGroup_243 zm_X10_226 (by decide) (by decide) rfl (Nat.le_of_ble_eq_true rfl) (Nat.le_of_ble_eq_true rfl) (Nat.le_of_ble_eq_true rfl) (Nat.le_of_ble_eq_true rfl) (jX10_good hP21 ?_)
              refine zj_ifB_eq (n := 249) (tgt := 260) rfl dX10_parseGroup_246 (by decide) (fun c246 => ?_) (fun c246 => ?_)
              · exact zj_return dX10_parseGroup_260 rfl (h M20 w hF21 hP21 hA21 (fun q => absurd (sEndOk q).1 (of_decide_eq_false c246)))
              · refine zj_aload0 (n := 250) rfl dX10_parseGroup_249 ?_
                refine zj_getr (n := 253) (q := 120) rfl dX10_parseGroup_250 zf_X10_24 rfl (by decide) (by decide) hA21.now ?_
                refine zj_bipushN (v := 8) (n := 255) rfl dX10_parseGroup_253 (by decide) ?_
                refine zj_dup2 (n := 256) rfl dX10_parseGroup_255 ?_
                refine zj_ialoadN (e := v 8) (n := 257) rfl dX10_parseGroup_256 (by decide) rfl (by rw [show zLen 120 = 698 from rfl]; omega) (by rw [hA21.2.2 8 (by decide), hw8]) ?_
                refine zj_iconstN_1 (n := 258) rfl dX10_parseGroup_257 ?_
                refine zj_iaddN (n := 259) rfl dX10_parseGroup_258 ?_
                refine zj_iastoreN (n := 260) rfl dX10_parseGroup_259 (by decide) rfl (by rw [show zLen 120 = 698 from rfl]; omega) ?_
                refine zj_return dX10_parseGroup_260 rfl ?_
                exact h _ _ hF21.put hP21.st hA21.set hwV
            · have q14 := of_decide_eq_true c209
              refine zj_aload0 (n := 213) rfl dX10_parseGroup_212 ?_
              refine zj_getiN (e := tK B n e17) (n := 216) rfl dX10_parseGroup_213 zf_X10_242 rfl (by decide) (by decide) hK17.1 ?_
              refine zj_iconstN_3 (n := 217) rfl dX10_parseGroup_216 ?_
              refine zj_icmpN_ne (n := 220) (tgt := 242) rfl dX10_parseGroup_217 (by decide) (by omega) (by omega) (fun c217 => ?_) (fun c217 => ?_)
              · refine zj_gen (P := fun M20 => ∃ w, zHf M M20 ∧ zPm M20 n B (gp15 B n v s) ∧ zRA M20 120 w ∧ w 8 = v 8 ∧ ((sEnd B n (gp15 B n v s)).1 = 0 → vset w 8 (v 8 + 1) = vGrpF B n v s)) ⟨_, hF17, (by rw [g15s (by unfold sSemi; rw [← he17 q14, beq_false_of_ne c217]; rfl)]; exact hP17), hA17, (by rw [vset_off (by omega), vset_off (by omega), vset_off (by omega), vset_off (by omega), vset_off (by omega), vset_off (by omega), vlet_off (by omega)]), (fun q => absurd (sEndOk q).2 (by rw [g15s (by unfold sSemi; rw [← he17 q14, beq_false_of_ne c217]; rfl)]; unfold sSemi; rw [← he17 q14, beq_false_of_ne c217]; simp))⟩ ?_
                intro M20 h20
                obtain ⟨w, hF21, hP21, hA21, hw8, hwV⟩ := h20
                refine zj_aload0 (n := 243) rfl dX10_parseGroup_242 ?_
                refine zj_callV0 (n := 246) (a' := 0) (b' := 0) rfl dX10_parseGroup_243 zm_X10_226 (by decide) (by decide) rfl (Nat.le_of_ble_eq_true rfl) (Nat.le_of_ble_eq_true rfl) (Nat.le_of_ble_eq_true rfl) (Nat.le_of_ble_eq_true rfl) (jX10_good hP21 ?_)
                refine zj_ifB_eq (n := 249) (tgt := 260) rfl dX10_parseGroup_246 (by decide) (fun c246 => ?_) (fun c246 => ?_)
                · exact zj_return dX10_parseGroup_260 rfl (h M20 w hF21 hP21 hA21 (fun q => absurd (sEndOk q).1 (of_decide_eq_false c246)))
                · refine zj_aload0 (n := 250) rfl dX10_parseGroup_249 ?_
                  refine zj_getr (n := 253) (q := 120) rfl dX10_parseGroup_250 zf_X10_24 rfl (by decide) (by decide) hA21.now ?_
                  refine zj_bipushN (v := 8) (n := 255) rfl dX10_parseGroup_253 (by decide) ?_
                  refine zj_dup2 (n := 256) rfl dX10_parseGroup_255 ?_
                  refine zj_ialoadN (e := v 8) (n := 257) rfl dX10_parseGroup_256 (by decide) rfl (by rw [show zLen 120 = 698 from rfl]; omega) (by rw [hA21.2.2 8 (by decide), hw8]) ?_
                  refine zj_iconstN_1 (n := 258) rfl dX10_parseGroup_257 ?_
                  refine zj_iaddN (n := 259) rfl dX10_parseGroup_258 ?_
                  refine zj_iastoreN (n := 260) rfl dX10_parseGroup_259 (by decide) rfl (by rw [show zLen 120 = 698 from rfl]; omega) ?_
                  refine zj_return dX10_parseGroup_260 rfl ?_
                  exact h _ _ hF21.put hP21.st hA21.set hwV
              · refine zj_aload0 (n := 221) rfl dX10_parseGroup_220 ?_
                refine zj_getiN (e := B (tS B n e17)) (n := 224) rfl dX10_parseGroup_221 zf_X10_253 rfl (by decide) (by decide) (hK17.2.2.2.2 c217) ?_
                have hsn17 : tS B n e17 < n := by
                  by_cases w : tS B n e17 < n
                  · exact w
                  · rw [show tK B n e17 = 0 from sK_0.mpr w] at c217; cases c217
                have hb17 := (hT17.2.2 _ hsn17).1
                refine zj_bipushN (v := 59) (n := 226) rfl dX10_parseGroup_224 (by decide) ?_
                refine zj_icmpN_ne (n := 229) (tgt := 242) rfl dX10_parseGroup_226 (by decide) (by omega) (by omega) (fun c226 => ?_) (fun c226 => ?_)
                · refine zj_gen (P := fun M20 => ∃ w, zHf M M20 ∧ zPm M20 n B (gp15 B n v s) ∧ zRA M20 120 w ∧ w 8 = v 8 ∧ ((sEnd B n (gp15 B n v s)).1 = 0 → vset w 8 (v 8 + 1) = vGrpF B n v s)) ⟨_, hF17, (by rw [g15s (by unfold sSemi; rw [← he17 q14, beq_false_of_ne c226, Bool.and_false])]; exact hP17), hA17, (by rw [vset_off (by omega), vset_off (by omega), vset_off (by omega), vset_off (by omega), vset_off (by omega), vset_off (by omega), vlet_off (by omega)]), (fun q => absurd (sEndOk q).2 (by rw [g15s (by unfold sSemi; rw [← he17 q14, beq_false_of_ne c226, Bool.and_false])]; unfold sSemi; rw [← he17 q14, beq_false_of_ne c226]; simp))⟩ ?_
                  intro M20 h20
                  obtain ⟨w, hF21, hP21, hA21, hw8, hwV⟩ := h20
                  refine zj_aload0 (n := 243) rfl dX10_parseGroup_242 ?_
                  refine zj_callV0 (n := 246) (a' := 0) (b' := 0) rfl dX10_parseGroup_243 zm_X10_226 (by decide) (by decide) rfl (Nat.le_of_ble_eq_true rfl) (Nat.le_of_ble_eq_true rfl) (Nat.le_of_ble_eq_true rfl) (Nat.le_of_ble_eq_true rfl) (jX10_good hP21 ?_)
                  refine zj_ifB_eq (n := 249) (tgt := 260) rfl dX10_parseGroup_246 (by decide) (fun c246 => ?_) (fun c246 => ?_)
                  · exact zj_return dX10_parseGroup_260 rfl (h M20 w hF21 hP21 hA21 (fun q => absurd (sEndOk q).1 (of_decide_eq_false c246)))
                  · refine zj_aload0 (n := 250) rfl dX10_parseGroup_249 ?_
                    refine zj_getr (n := 253) (q := 120) rfl dX10_parseGroup_250 zf_X10_24 rfl (by decide) (by decide) hA21.now ?_
                    refine zj_bipushN (v := 8) (n := 255) rfl dX10_parseGroup_253 (by decide) ?_
                    refine zj_dup2 (n := 256) rfl dX10_parseGroup_255 ?_
                    refine zj_ialoadN (e := v 8) (n := 257) rfl dX10_parseGroup_256 (by decide) rfl (by rw [show zLen 120 = 698 from rfl]; omega) (by rw [hA21.2.2 8 (by decide), hw8]) ?_
                    refine zj_iconstN_1 (n := 258) rfl dX10_parseGroup_257 ?_
                    refine zj_iaddN (n := 259) rfl dX10_parseGroup_258 ?_
                    refine zj_iastoreN (n := 260) rfl dX10_parseGroup_259 (by decide) rfl (by rw [show zLen 120 = 698 from rfl]; omega) ?_
                    refine zj_return dX10_parseGroup_260 rfl ?_
                    exact h _ _ hF21.put hP21.st hA21.set hwV
                · have hsem : sSemi B n (gp14 B n v s).2.2 = true := by unfold sSemi; rw [← he17 q14, c217, c226]; rfl
                  have q13 := (sNum_ok q14).1
                  have q12 := (sTake_ok q13).1
                  have q11 := (sNum_ok q12).1
                  have q10 := (sTake_ok q11).1
                  have q9 := (sNum_ok q10).1
                  have q8 := (sTake_ok q9).1
                  have q7 := (sNum_ok q8).1
                  have q6 := (sTake_ok q7).1
                  have q5 := (sNum_ok q6).1
                  have q4 := (sTake_ok q5).1
                  have q4e := (sErr_ok (by decide)).mp (sNext_ok.mp q4)
                  have q3 := ((sErr_ok (by decide)).mp q4e.1).1
                  have q2 := sNext_ok.mp (sTake_ok q3).1
                  have r2 := he2 q2
                  have r5 := hy5 q4e.1
                  have r8 := hx8 q6
                  have r10 := hx10 q8
                  have r12 := hx12 q10
                  have r14 := hx14 q12
                  have r16 := hx16 q14
                  have b8 := (sNum_ok q6).2.2
                  have b10 := (sNum_ok q8).2.2
                  have b12 := (sNum_ok q10).2.2
                  have b14 := (sNum_ok q12).2.2
                  have b16 := (sNum_ok q14).2.2
                  have eV : vset (vset (vset (vset (vset (vset (vlet v (268 + 23 * v 8 + 17) B (tS B n e2) (tE B n e2)) (268 + 23 * v 8 + 0) x5) (268 + 23 * v 8 + 1) x8) (268 + 23 * v 8 + 2) x10) (268 + 23 * v 8 + 3) x12) (268 + 23 * v 8 + 4) x14) (268 + 23 * v 8 + 5) x16 = vGrp B n v s := by
                    subst r2
                    have e5 : (gpt B n v s).getD 0 = x5 := by
                      cases q : gpt B n v s with
                      | none => have := q4e.2; rw [q] at this; cases this
                      | some t => exact (hz5 q4e.1 t q).symm
                    unfold vGrp
                    rw [e5, r8, r10, r12, r14, r16]
                    rfl
                  have hv8 : vGrp B n v s 8 = v 8 := by rw [← eV]; rw [vset_off (by omega), vset_off (by omega), vset_off (by omega), vset_off (by omega), vset_off (by omega), vset_off (by omega), vlet_off (by omega)]
                  have hA17v : zRA M17 120 (vGrp B n v s) := eV ▸ hA17
                  have hpq : zPq (vGrp B n v s) (v 8) := by
                    have hag : ∀ j, zAc v j → vGrp B n v s j = v j := fun j hj => by
                      unfold zAc at hj
                      rw [← eV]
                      rw [vset_off (by omega), vset_off (by omega), vset_off (by omega), vset_off (by omega), vset_off (by omega), vset_off (by omega), vlet_off (by omega)]
                    refine ⟨hW.ag hag, hv8, hlt, ?_, ?_⟩
                    · show vGrp B n v s (268 + 23 * v 8 + 2) + vGrp B n v s (268 + 23 * v 8 + 3) ≤ 10
                      unfold vGrp
                      rw [vset_off (show 268 + 23 * v 8 + 2 ≠ 268 + 23 * v 8 + 5 by omega), vset_off (show 268 + 23 * v 8 + 2 ≠ 268 + 23 * v 8 + 4 by omega), vset_off (show 268 + 23 * v 8 + 2 ≠ 268 + 23 * v 8 + 3 by omega), vset_at, vset_off (show 268 + 23 * v 8 + 3 ≠ 268 + 23 * v 8 + 5 by omega), vset_off (show 268 + 23 * v 8 + 3 ≠ 268 + 23 * v 8 + 4 by omega), vset_at]
                      have c10 : tN B n (gp7 B n v s).2.2 ≤ 6 := b10.2
                      have c12 : tN B n (gp9 B n v s).2.2 ≤ 4 := b12.2
                      omega
                    · unfold vGrp
                      rw [vset_off (by omega), vset_off (by omega), vset_off (by omega), vset_off (by omega), vset_at]
                      exact b8.2
                  refine zj_aload0 (n := 230) rfl dX10_parseGroup_229 ?_
                  refine zj_iload1 (n := 231) rfl dX10_parseGroup_230 ?_
                  refine zj_callV1 (n := 234) (a' := 0) (b' := 0) rfl dX10_parseGroup_231 zm_X10_360 (by decide) (by decide) rfl (Nat.le_of_ble_eq_true rfl) (Nat.le_of_ble_eq_true rfl) (Nat.le_of_ble_eq_true rfl) (Nat.le_of_ble_eq_true rfl) (jX10_isPlaced (v := vGrp B n v s) hA17v hpq ?_)
                  intro M18 u18 b18 hg18 hA18 hb18 hbs hu18
                  refine zj_ifB_ne (n := 237) (tgt := 242) rfl dX10_parseGroup_234 (by decide) (fun c234 => ?_) (fun c234 => ?_)
                  · obtain ⟨p9, hp9⟩ := hb18 c234
                    refine zj_gen (P := fun M20 => ∃ w, zHf M M20 ∧ zPm M20 n B (gp15 B n v s) ∧ zRA M20 120 w ∧ w 8 = v 8 ∧ ((sEnd B n (gp15 B n v s)).1 = 0 → vset w 8 (v 8 + 1) = vGrpF B n v s)) ⟨_, (hg18.hf hF17), (by rw [g15y hsem (by rw [hp9]; rfl)]; exact hg18.pm hP17), hA18, (by rw [hu18 8 (by omega)]; exact hv8), (fun _ => by unfold vGrpF; rw [hp9])⟩ ?_
                    intro M20 h20
                    obtain ⟨w, hF21, hP21, hA21, hw8, hwV⟩ := h20
                    refine zj_aload0 (n := 243) rfl dX10_parseGroup_242 ?_
                    refine zj_callV0 (n := 246) (a' := 0) (b' := 0) rfl dX10_parseGroup_243 zm_X10_226 (by decide) (by decide) rfl (Nat.le_of_ble_eq_true rfl) (Nat.le_of_ble_eq_true rfl) (Nat.le_of_ble_eq_true rfl) (Nat.le_of_ble_eq_true rfl) (jX10_good hP21 ?_)
                    refine zj_ifB_eq (n := 249) (tgt := 260) rfl dX10_parseGroup_246 (by decide) (fun c246 => ?_) (fun c246 => ?_)
                    · exact zj_return dX10_parseGroup_260 rfl (h M20 w hF21 hP21 hA21 (fun q => absurd (sEndOk q).1 (of_decide_eq_false c246)))
                    · refine zj_aload0 (n := 250) rfl dX10_parseGroup_249 ?_
                      refine zj_getr (n := 253) (q := 120) rfl dX10_parseGroup_250 zf_X10_24 rfl (by decide) (by decide) hA21.now ?_
                      refine zj_bipushN (v := 8) (n := 255) rfl dX10_parseGroup_253 (by decide) ?_
                      refine zj_dup2 (n := 256) rfl dX10_parseGroup_255 ?_
                      refine zj_ialoadN (e := v 8) (n := 257) rfl dX10_parseGroup_256 (by decide) rfl (by rw [show zLen 120 = 698 from rfl]; omega) (by rw [hA21.2.2 8 (by decide), hw8]) ?_
                      refine zj_iconstN_1 (n := 258) rfl dX10_parseGroup_257 ?_
                      refine zj_iaddN (n := 259) rfl dX10_parseGroup_258 ?_
                      refine zj_iastoreN (n := 260) rfl dX10_parseGroup_259 (by decide) rfl (by rw [show zLen 120 = 698 from rfl]; omega) ?_
                      refine zj_return dX10_parseGroup_260 rfl ?_
                      exact h _ _ hF21.put hP21.st hA21.set hwV
                  · refine zj_aload0 (n := 238) rfl dX10_parseGroup_237 ?_
                    refine zj_iconstN_5 (n := 239) rfl dX10_parseGroup_238 ?_
                    refine zj_callV1 (n := 242) (a' := 0) (b' := 0) rfl dX10_parseGroup_239 zm_X10_317 (by decide) (by decide) rfl (Nat.le_of_ble_eq_true rfl) (Nat.le_of_ble_eq_true rfl) (Nat.le_of_ble_eq_true rfl) (Nat.le_of_ble_eq_true rfl) (jX10_errs (hg18.pm hP17) (by decide) ?_)
                    intro M19 hG19 hP19
                    refine zj_gen (P := fun M20 => ∃ w, zHf M M20 ∧ zPm M20 n B (gp15 B n v s) ∧ zRA M20 120 w ∧ w 8 = v 8 ∧ ((sEnd B n (gp15 B n v s)).1 = 0 → vset w 8 (v 8 + 1) = vGrpF B n v s)) ⟨_, ((hg18.hf hF17).tr (zHf.of2 hG19)), (by rw [g15f hsem (by rw [c234] at hbs; cases hz : plS (vGrp B n v s) (v 8) (vsh (vGrp B n v s) (v 8)); rfl; rw [hz] at hbs; cases hbs)]; exact hP19), (hA18.gf hG19), (by rw [hu18 8 (by omega)]; exact hv8), (fun q => absurd (sEndOk q).1 (by rw [g15f hsem (by rw [c234] at hbs; cases hz : plS (vGrp B n v s) (v 8) (vsh (vGrp B n v s) (v 8)); rfl; rw [hz] at hbs; cases hbs), sRef_e q14]; simp))⟩ ?_
                    intro M20 h20
                    obtain ⟨w, hF21, hP21, hA21, hw8, hwV⟩ := h20
                    refine zj_aload0 (n := 243) rfl dX10_parseGroup_242 ?_
                    refine zj_callV0 (n := 246) (a' := 0) (b' := 0) rfl dX10_parseGroup_243 zm_X10_226 (by decide) (by decide) rfl (Nat.le_of_ble_eq_true rfl) (Nat.le_of_ble_eq_true rfl) (Nat.le_of_ble_eq_true rfl) (Nat.le_of_ble_eq_true rfl) (jX10_good hP21 ?_)
                    refine zj_ifB_eq (n := 249) (tgt := 260) rfl dX10_parseGroup_246 (by decide) (fun c246 => ?_) (fun c246 => ?_)
                    · exact zj_return dX10_parseGroup_260 rfl (h M20 w hF21 hP21 hA21 (fun q => absurd (sEndOk q).1 (of_decide_eq_false c246)))
                    · refine zj_aload0 (n := 250) rfl dX10_parseGroup_249 ?_
                      refine zj_getr (n := 253) (q := 120) rfl dX10_parseGroup_250 zf_X10_24 rfl (by decide) (by decide) hA21.now ?_
                      refine zj_bipushN (v := 8) (n := 255) rfl dX10_parseGroup_253 (by decide) ?_
                      refine zj_dup2 (n := 256) rfl dX10_parseGroup_255 ?_
                      refine zj_ialoadN (e := v 8) (n := 257) rfl dX10_parseGroup_256 (by decide) rfl (by rw [show zLen 120 = 698 from rfl]; omega) (by rw [hA21.2.2 8 (by decide), hw8]) ?_
                      refine zj_iconstN_1 (n := 258) rfl dX10_parseGroup_257 ?_
                      refine zj_iaddN (n := 259) rfl dX10_parseGroup_258 ?_
                      refine zj_iastoreN (n := 260) rfl dX10_parseGroup_259 (by decide) rfl (by rw [show zLen 120 = 698 from rfl]; omega) ?_
                      refine zj_return dX10_parseGroup_260 rfl ?_
                      exact h _ _ hF21.put hP21.st hA21.set hwV
          · refine zj_aload0 (n := 106) rfl dX10_parseGroup_105 ?_
            refine zj_iconstN_3 (n := 107) rfl dX10_parseGroup_106 ?_
            refine zj_callV1 (n := 110) (a' := 0) (b' := 0) rfl dX10_parseGroup_107 zm_X10_317 (by decide) (by decide) rfl (Nat.le_of_ble_eq_true rfl) (Nat.le_of_ble_eq_true rfl) (Nat.le_of_ble_eq_true rfl) (Nat.le_of_ble_eq_true rfl) (jX10_errs hP5 (by decide) ?_)
            intro M20 hG20 hP20
            refine zj_gen (P := fun M6 => zHf M M6 ∧ zPm M6 n B (gp4e B n v s) ∧ zRA M6 120 (vset (vlet v (268 + 23 * v 8 + 17) B (tS B n e2) (tE B n e2)) (268 + 23 * v 8 + 0) x5)) ⟨(hF5.tr (zHf.of2 hG20)), (by unfold gp4e; rw [c102]; exact hP20), (hA5.gf hG20)⟩ ?_
            intro M6 h6
            obtain ⟨hF6, hP6, hA6⟩ := h6
            refine zj_aload0 (n := 111) rfl dX10_parseGroup_110 ?_
            refine zj_callV0 (n := 114) (a' := 0) (b' := 0) rfl dX10_parseGroup_111 zm_X10_320 (by decide) (by decide) rfl (Nat.le_of_ble_eq_true rfl) (Nat.le_of_ble_eq_true rfl) (Nat.le_of_ble_eq_true rfl) (Nat.le_of_ble_eq_true rfl) (jX10_goOn hP6 ?_)
            intro M7 hG7 hP7
            have hF7 : zHf M M7 := hF6.tr (zHf.of hG7)
            have hA7 := hA6.gf hG7
            change zPm M7 n B (gp4 B n v s) at hP7
            refine zj_aload0 (n := 115) rfl dX10_parseGroup_114 ?_
            refine zj_getr (n := 118) (q := 120) rfl dX10_parseGroup_115 zf_X10_24 rfl (by decide) (by decide) hA7.now ?_
            refine zj_iload2 (n := 119) rfl dX10_parseGroup_118 ?_
            refine zj_iconstN_1 (n := 120) rfl dX10_parseGroup_119 ?_
            refine zj_iaddN (n := 121) rfl dX10_parseGroup_120 ?_
            refine zj_aload0 (n := 122) rfl dX10_parseGroup_121 ?_
            refine zj_ldcwS (i := 18) (n := 125) rfl dX10_parseGroup_122 rfl (by decide) rfl ?_
            refine zj_iconstN_0 (n := 126) rfl dX10_parseGroup_125 ?_
            refine zj_sipushN (v := 9999) (n := 129) rfl dX10_parseGroup_126 (by decide) ?_
            refine zj_callV3 (n := 132) (a' := 0) (b' := 0) rfl dX10_parseGroup_129 zm_X10_355 (by decide) (by decide) rfl (Nat.le_of_ble_eq_true rfl) (Nat.le_of_ble_eq_true rfl) (Nat.le_of_ble_eq_true rfl) (Nat.le_of_ble_eq_true rfl) (jX10_numberAfter hP7 (by decide) (by decide) (by decide) ?_)
            intro M8 x8 hx8b hG8 hP8 hx8
            have hF8 : zHf M M8 := hF7.tr (zHf.of hG8)
            have hA8 := hA7.gf hG8
            change zPm M8 n B (gp6 B n v s) at hP8
            refine zj_iastoreN (n := 133) rfl dX10_parseGroup_132 (by decide) rfl (by rw [show zLen 120 = 698 from rfl]; omega) ?_
            refine zj_gen (P := fun M9 => zHf M M9 ∧ zPm M9 n B (gp6 B n v s) ∧ zRA M9 120 (vset (vset (vlet v (268 + 23 * v 8 + 17) B (tS B n e2) (tE B n e2)) (268 + 23 * v 8 + 0) x5) (268 + 23 * v 8 + 1) x8)) ⟨hF8.put, hP8.st, hA8.set⟩ ?_
            intro M9 h9
            obtain ⟨hF9, hP9, hA9⟩ := h9
            refine zj_aload0 (n := 134) rfl dX10_parseGroup_133 ?_
            refine zj_getr (n := 137) (q := 120) rfl dX10_parseGroup_134 zf_X10_24 rfl (by decide) (by decide) hA9.now ?_
            refine zj_iload2 (n := 138) rfl dX10_parseGroup_137 ?_
            refine zj_iconstN_2 (n := 139) rfl dX10_parseGroup_138 ?_
            refine zj_iaddN (n := 140) rfl dX10_parseGroup_139 ?_
            refine zj_aload0 (n := 141) rfl dX10_parseGroup_140 ?_
            refine zj_ldcwS (i := 19) (n := 144) rfl dX10_parseGroup_141 rfl (by decide) rfl ?_
            refine zj_iconstN_1 (n := 145) rfl dX10_parseGroup_144 ?_
            refine zj_bipushN (v := 6) (n := 147) rfl dX10_parseGroup_145 (by decide) ?_
            refine zj_callV3 (n := 150) (a' := 0) (b' := 0) rfl dX10_parseGroup_147 zm_X10_355 (by decide) (by decide) rfl (Nat.le_of_ble_eq_true rfl) (Nat.le_of_ble_eq_true rfl) (Nat.le_of_ble_eq_true rfl) (Nat.le_of_ble_eq_true rfl) (jX10_numberAfter hP9 (by decide) (by decide) (by decide) ?_)
            intro M10 x10 hx10b hG10 hP10 hx10
            have hF10 : zHf M M10 := hF9.tr (zHf.of hG10)
            have hA10 := hA9.gf hG10
            change zPm M10 n B (gp8 B n v s) at hP10
            refine zj_iastoreN (n := 151) rfl dX10_parseGroup_150 (by decide) rfl (by rw [show zLen 120 = 698 from rfl]; omega) ?_
            refine zj_gen (P := fun M11 => zHf M M11 ∧ zPm M11 n B (gp8 B n v s) ∧ zRA M11 120 (vset (vset (vset (vlet v (268 + 23 * v 8 + 17) B (tS B n e2) (tE B n e2)) (268 + 23 * v 8 + 0) x5) (268 + 23 * v 8 + 1) x8) (268 + 23 * v 8 + 2) x10)) ⟨hF10.put, hP10.st, hA10.set⟩ ?_
            intro M11 h11
            obtain ⟨hF11, hP11, hA11⟩ := h11
            refine zj_aload0 (n := 152) rfl dX10_parseGroup_151 ?_
            refine zj_getr (n := 155) (q := 120) rfl dX10_parseGroup_152 zf_X10_24 rfl (by decide) (by decide) hA11.now ?_
            refine zj_iload2 (n := 156) rfl dX10_parseGroup_155 ?_
            refine zj_iconstN_3 (n := 157) rfl dX10_parseGroup_156 ?_
            refine zj_iaddN (n := 158) rfl dX10_parseGroup_157 ?_
            refine zj_aload0 (n := 159) rfl dX10_parseGroup_158 ?_
            refine zj_ldcwS (i := 20) (n := 162) rfl dX10_parseGroup_159 rfl (by decide) rfl ?_
            refine zj_iconstN_1 (n := 163) rfl dX10_parseGroup_162 ?_
            refine zj_iconstN_4 (n := 164) rfl dX10_parseGroup_163 ?_
            refine zj_callV3 (n := 167) (a' := 0) (b' := 0) rfl dX10_parseGroup_164 zm_X10_355 (by decide) (by decide) rfl (Nat.le_of_ble_eq_true rfl) (Nat.le_of_ble_eq_true rfl) (Nat.le_of_ble_eq_true rfl) (Nat.le_of_ble_eq_true rfl) (jX10_numberAfter hP11 (by decide) (by decide) (by decide) ?_)
            intro M12 x12 hx12b hG12 hP12 hx12
            have hF12 : zHf M M12 := hF11.tr (zHf.of hG12)
            have hA12 := hA11.gf hG12
            change zPm M12 n B (gp10 B n v s) at hP12
            refine zj_iastoreN (n := 168) rfl dX10_parseGroup_167 (by decide) rfl (by rw [show zLen 120 = 698 from rfl]; omega) ?_
            refine zj_gen (P := fun M13 => zHf M M13 ∧ zPm M13 n B (gp10 B n v s) ∧ zRA M13 120 (vset (vset (vset (vset (vlet v (268 + 23 * v 8 + 17) B (tS B n e2) (tE B n e2)) (268 + 23 * v 8 + 0) x5) (268 + 23 * v 8 + 1) x8) (268 + 23 * v 8 + 2) x10) (268 + 23 * v 8 + 3) x12)) ⟨hF12.put, hP12.st, hA12.set⟩ ?_
            intro M13 h13
            obtain ⟨hF13, hP13, hA13⟩ := h13
            refine zj_aload0 (n := 169) rfl dX10_parseGroup_168 ?_
            refine zj_getr (n := 172) (q := 120) rfl dX10_parseGroup_169 zf_X10_24 rfl (by decide) (by decide) hA13.now ?_
            refine zj_iload2 (n := 173) rfl dX10_parseGroup_172 ?_
            refine zj_iconstN_4 (n := 174) rfl dX10_parseGroup_173 ?_
            refine zj_iaddN (n := 175) rfl dX10_parseGroup_174 ?_
            refine zj_aload0 (n := 176) rfl dX10_parseGroup_175 ?_
            refine zj_ldcwS (i := 21) (n := 179) rfl dX10_parseGroup_176 rfl (by decide) rfl ?_
            refine zj_iconstN_1 (n := 180) rfl dX10_parseGroup_179 ?_
            refine zj_bipushN (v := 100) (n := 182) rfl dX10_parseGroup_180 (by decide) ?_
            refine zj_callV3 (n := 185) (a' := 0) (b' := 0) rfl dX10_parseGroup_182 zm_X10_355 (by decide) (by decide) rfl (Nat.le_of_ble_eq_true rfl) (Nat.le_of_ble_eq_true rfl) (Nat.le_of_ble_eq_true rfl) (Nat.le_of_ble_eq_true rfl) (jX10_numberAfter hP13 (by decide) (by decide) (by decide) ?_)
            intro M14 x14 hx14b hG14 hP14 hx14
            have hF14 : zHf M M14 := hF13.tr (zHf.of hG14)
            have hA14 := hA13.gf hG14
            change zPm M14 n B (gp12 B n v s) at hP14
            refine zj_iastoreN (n := 186) rfl dX10_parseGroup_185 (by decide) rfl (by rw [show zLen 120 = 698 from rfl]; omega) ?_
            refine zj_gen (P := fun M15 => zHf M M15 ∧ zPm M15 n B (gp12 B n v s) ∧ zRA M15 120 (vset (vset (vset (vset (vset (vlet v (268 + 23 * v 8 + 17) B (tS B n e2) (tE B n e2)) (268 + 23 * v 8 + 0) x5) (268 + 23 * v 8 + 1) x8) (268 + 23 * v 8 + 2) x10) (268 + 23 * v 8 + 3) x12) (268 + 23 * v 8 + 4) x14)) ⟨hF14.put, hP14.st, hA14.set⟩ ?_
            intro M15 h15
            obtain ⟨hF15, hP15, hA15⟩ := h15
            refine zj_aload0 (n := 187) rfl dX10_parseGroup_186 ?_
            refine zj_getr (n := 190) (q := 120) rfl dX10_parseGroup_187 zf_X10_24 rfl (by decide) (by decide) hA15.now ?_
            refine zj_iload2 (n := 191) rfl dX10_parseGroup_190 ?_
            refine zj_iconstN_5 (n := 192) rfl dX10_parseGroup_191 ?_
            refine zj_iaddN (n := 193) rfl dX10_parseGroup_192 ?_
            refine zj_aload0 (n := 194) rfl dX10_parseGroup_193 ?_
            refine zj_ldcwS (i := 22) (n := 197) rfl dX10_parseGroup_194 rfl (by decide) rfl ?_
            refine zj_iconstN_1 (n := 198) rfl dX10_parseGroup_197 ?_
            refine zj_sipushN (v := 9999) (n := 201) rfl dX10_parseGroup_198 (by decide) ?_
            refine zj_callV3 (n := 204) (a' := 0) (b' := 0) rfl dX10_parseGroup_201 zm_X10_355 (by decide) (by decide) rfl (Nat.le_of_ble_eq_true rfl) (Nat.le_of_ble_eq_true rfl) (Nat.le_of_ble_eq_true rfl) (Nat.le_of_ble_eq_true rfl) (jX10_numberAfter hP15 (by decide) (by decide) (by decide) ?_)
            intro M16 x16 hx16b hG16 hP16 hx16
            have hF16 : zHf M M16 := hF15.tr (zHf.of hG16)
            have hA16 := hA15.gf hG16
            change zPm M16 n B (gp14 B n v s) at hP16
            refine zj_iastoreN (n := 205) rfl dX10_parseGroup_204 (by decide) rfl (by rw [show zLen 120 = 698 from rfl]; omega) ?_
            refine zj_gen (P := fun M17 => zHf M M17 ∧ zPm M17 n B (gp14 B n v s) ∧ zRA M17 120 (vset (vset (vset (vset (vset (vset (vlet v (268 + 23 * v 8 + 17) B (tS B n e2) (tE B n e2)) (268 + 23 * v 8 + 0) x5) (268 + 23 * v 8 + 1) x8) (268 + 23 * v 8 + 2) x10) (268 + 23 * v 8 + 3) x12) (268 + 23 * v 8 + 4) x14) (268 + 23 * v 8 + 5) x16)) ⟨hF16.put, hP16.st, hA16.set⟩ ?_
            intro M17 h17
            obtain ⟨hF17, hP17, hA17⟩ := h17
            obtain ⟨hT17, -, -, -, -, e17, hen17, hK17, he17⟩ := id hP17
            have hts17 := tS_le (B := B) hen17
            have hk17 : tK B n e17 ≤ 3 := sK_le
            refine zj_aload0 (n := 206) rfl dX10_parseGroup_205 ?_
            refine zj_callV0 (n := 209) (a' := 0) (b' := 0) rfl dX10_parseGroup_206 zm_X10_226 (by decide) (by decide) rfl (Nat.le_of_ble_eq_true rfl) (Nat.le_of_ble_eq_true rfl) (Nat.le_of_ble_eq_true rfl) (Nat.le_of_ble_eq_true rfl) (jX10_good hP17 ?_)
            refine zj_ifB_eq (n := 212) (tgt := 242) rfl dX10_parseGroup_209 (by decide) (fun c209 => ?_) (fun c209 => ?_)
            · refine zj_gen (P := fun M20 => ∃ w, zHf M M20 ∧ zPm M20 n B (gp15 B n v s) ∧ zRA M20 120 w ∧ w 8 = v 8 ∧ ((sEnd B n (gp15 B n v s)).1 = 0 → vset w 8 (v 8 + 1) = vGrpF B n v s)) ⟨_, hF17, (by rw [g15n (of_decide_eq_false c209)]; exact hP17), hA17, (by rw [vset_off (by omega), vset_off (by omega), vset_off (by omega), vset_off (by omega), vset_off (by omega), vset_off (by omega), vlet_off (by omega)]), (fun q => absurd (sEndOk q).1 (by rw [g15n (of_decide_eq_false c209)]; exact of_decide_eq_false c209))⟩ ?_
              intro M20 h20
              obtain ⟨w, hF21, hP21, hA21, hw8, hwV⟩ := h20
              refine zj_aload0 (n := 243) rfl dX10_parseGroup_242 ?_
              refine zj_callV0 (n := 246) (a' := 0) (b' := 0) rfl dX10_parseGroup_243 zm_X10_226 (by decide) (by decide) rfl (Nat.le_of_ble_eq_true rfl) (Nat.le_of_ble_eq_true rfl) (Nat.le_of_ble_eq_true rfl) (Nat.le_of_ble_eq_true rfl) (jX10_good hP21 ?_)
              refine zj_ifB_eq (n := 249) (tgt := 260) rfl dX10_parseGroup_246 (by decide) (fun c246 => ?_) (fun c246 => ?_)
              · exact zj_return dX10_parseGroup_260 rfl (h M20 w hF21 hP21 hA21 (fun q => absurd (sEndOk q).1 (of_decide_eq_false c246)))
              · refine zj_aload0 (n := 250) rfl dX10_parseGroup_249 ?_
                refine zj_getr (n := 253) (q := 120) rfl dX10_parseGroup_250 zf_X10_24 rfl (by decide) (by decide) hA21.now ?_
                refine zj_bipushN (v := 8) (n := 255) rfl dX10_parseGroup_253 (by decide) ?_
                refine zj_dup2 (n := 256) rfl dX10_parseGroup_255 ?_
                refine zj_ialoadN (e := v 8) (n := 257) rfl dX10_parseGroup_256 (by decide) rfl (by rw [show zLen 120 = 698 from rfl]; omega) (by rw [hA21.2.2 8 (by decide), hw8]) ?_
                refine zj_iconstN_1 (n := 258) rfl dX10_parseGroup_257 ?_
                refine zj_iaddN (n := 259) rfl dX10_parseGroup_258 ?_
                refine zj_iastoreN (n := 260) rfl dX10_parseGroup_259 (by decide) rfl (by rw [show zLen 120 = 698 from rfl]; omega) ?_
                refine zj_return dX10_parseGroup_260 rfl ?_
                exact h _ _ hF21.put hP21.st hA21.set hwV
            · have q14 := of_decide_eq_true c209
              refine zj_aload0 (n := 213) rfl dX10_parseGroup_212 ?_
              refine zj_getiN (e := tK B n e17) (n := 216) rfl dX10_parseGroup_213 zf_X10_242 rfl (by decide) (by decide) hK17.1 ?_
              refine zj_iconstN_3 (n := 217) rfl dX10_parseGroup_216 ?_
              refine zj_icmpN_ne (n := 220) (tgt := 242) rfl dX10_parseGroup_217 (by decide) (by omega) (by omega) (fun c217 => ?_) (fun c217 => ?_)
              · refine zj_gen (P := fun M20 => ∃ w, zHf M M20 ∧ zPm M20 n B (gp15 B n v s) ∧ zRA M20 120 w ∧ w 8 = v 8 ∧ ((sEnd B n (gp15 B n v s)).1 = 0 → vset w 8 (v 8 + 1) = vGrpF B n v s)) ⟨_, hF17, (by rw [g15s (by unfold sSemi; rw [← he17 q14, beq_false_of_ne c217]; rfl)]; exact hP17), hA17, (by rw [vset_off (by omega), vset_off (by omega), vset_off (by omega), vset_off (by omega), vset_off (by omega), vset_off (by omega), vlet_off (by omega)]), (fun q => absurd (sEndOk q).2 (by rw [g15s (by unfold sSemi; rw [← he17 q14, beq_false_of_ne c217]; rfl)]; unfold sSemi; rw [← he17 q14, beq_false_of_ne c217]; simp))⟩ ?_
                intro M20 h20
                obtain ⟨w, hF21, hP21, hA21, hw8, hwV⟩ := h20
                refine zj_aload0 (n := 243) rfl dX10_parseGroup_242 ?_
                refine zj_callV0 (n := 246) (a' := 0) (b' := 0) rfl dX10_parseGroup_243 zm_X10_226 (by decide) (by decide) rfl (Nat.le_of_ble_eq_true rfl) (Nat.le_of_ble_eq_true rfl) (Nat.le_of_ble_eq_true rfl) (Nat.le_of_ble_eq_true rfl) (jX10_good hP21 ?_)
                refine zj_ifB_eq (n := 249) (tgt := 260) rfl dX10_parseGroup_246 (by decide) (fun c246 => ?_) (fun c246 => ?_)
                · exact zj_return dX10_parseGroup_260 rfl (h M20 w hF21 hP21 hA21 (fun q => absurd (sEndOk q).1 (of_decide_eq_false c246)))
                · refine zj_aload0 (n := 250) rfl dX10_parseGroup_249 ?_
                  refine zj_getr (n := 253) (q := 120) rfl dX10_parseGroup_250 zf_X10_24 rfl (by decide) (by decide) hA21.now ?_
                  refine zj_bipushN (v := 8) (n := 255) rfl dX10_parseGroup_253 (by decide) ?_
                  refine zj_dup2 (n := 256) rfl dX10_parseGroup_255 ?_
                  refine zj_ialoadN (e := v 8) (n := 257) rfl dX10_parseGroup_256 (by decide) rfl (by rw [show zLen 120 = 698 from rfl]; omega) (by rw [hA21.2.2 8 (by decide), hw8]) ?_
                  refine zj_iconstN_1 (n := 258) rfl dX10_parseGroup_257 ?_
                  refine zj_iaddN (n := 259) rfl dX10_parseGroup_258 ?_
                  refine zj_iastoreN (n := 260) rfl dX10_parseGroup_259 (by decide) rfl (by rw [show zLen 120 = 698 from rfl]; omega) ?_
                  refine zj_return dX10_parseGroup_260 rfl ?_
                  exact h _ _ hF21.put hP21.st hA21.set hwV
              · refine zj_aload0 (n := 221) rfl dX10_parseGroup_220 ?_
                refine zj_getiN (e := B (tS B n e17)) (n := 224) rfl dX10_parseGroup_221 zf_X10_253 rfl (by decide) (by decide) (hK17.2.2.2.2 c217) ?_
                have hsn17 : tS B n e17 < n := by
                  by_cases w : tS B n e17 < n
                  · exact w
                  · rw [show tK B n e17 = 0 from sK_0.mpr w] at c217; cases c217
                have hb17 := (hT17.2.2 _ hsn17).1
                refine zj_bipushN (v := 59) (n := 226) rfl dX10_parseGroup_224 (by decide) ?_
                refine zj_icmpN_ne (n := 229) (tgt := 242) rfl dX10_parseGroup_226 (by decide) (by omega) (by omega) (fun c226 => ?_) (fun c226 => ?_)
                · refine zj_gen (P := fun M20 => ∃ w, zHf M M20 ∧ zPm M20 n B (gp15 B n v s) ∧ zRA M20 120 w ∧ w 8 = v 8 ∧ ((sEnd B n (gp15 B n v s)).1 = 0 → vset w 8 (v 8 + 1) = vGrpF B n v s)) ⟨_, hF17, (by rw [g15s (by unfold sSemi; rw [← he17 q14, beq_false_of_ne c226, Bool.and_false])]; exact hP17), hA17, (by rw [vset_off (by omega), vset_off (by omega), vset_off (by omega), vset_off (by omega), vset_off (by omega), vset_off (by omega), vlet_off (by omega)]), (fun q => absurd (sEndOk q).2 (by rw [g15s (by unfold sSemi; rw [← he17 q14, beq_false_of_ne c226, Bool.and_false])]; unfold sSemi; rw [← he17 q14, beq_false_of_ne c226]; simp))⟩ ?_
                  intro M20 h20
                  obtain ⟨w, hF21, hP21, hA21, hw8, hwV⟩ := h20
                  refine zj_aload0 (n := 243) rfl dX10_parseGroup_242 ?_
                  refine zj_callV0 (n := 246) (a' := 0) (b' := 0) rfl dX10_parseGroup_243 zm_X10_226 (by decide) (by decide) rfl (Nat.le_of_ble_eq_true rfl) (Nat.le_of_ble_eq_true rfl) (Nat.le_of_ble_eq_true rfl) (Nat.le_of_ble_eq_true rfl) (jX10_good hP21 ?_)
                  refine zj_ifB_eq (n := 249) (tgt := 260) rfl dX10_parseGroup_246 (by decide) (fun c246 => ?_) (fun c246 => ?_)
                  · exact zj_return dX10_parseGroup_260 rfl (h M20 w hF21 hP21 hA21 (fun q => absurd (sEndOk q).1 (of_decide_eq_false c246)))
                  · refine zj_aload0 (n := 250) rfl dX10_parseGroup_249 ?_
                    refine zj_getr (n := 253) (q := 120) rfl dX10_parseGroup_250 zf_X10_24 rfl (by decide) (by decide) hA21.now ?_
                    refine zj_bipushN (v := 8) (n := 255) rfl dX10_parseGroup_253 (by decide) ?_
                    refine zj_dup2 (n := 256) rfl dX10_parseGroup_255 ?_
                    refine zj_ialoadN (e := v 8) (n := 257) rfl dX10_parseGroup_256 (by decide) rfl (by rw [show zLen 120 = 698 from rfl]; omega) (by rw [hA21.2.2 8 (by decide), hw8]) ?_
                    refine zj_iconstN_1 (n := 258) rfl dX10_parseGroup_257 ?_
                    refine zj_iaddN (n := 259) rfl dX10_parseGroup_258 ?_
                    refine zj_iastoreN (n := 260) rfl dX10_parseGroup_259 (by decide) rfl (by rw [show zLen 120 = 698 from rfl]; omega) ?_
                    refine zj_return dX10_parseGroup_260 rfl ?_
                    exact h _ _ hF21.put hP21.st hA21.set hwV
                · have hsem : sSemi B n (gp14 B n v s).2.2 = true := by unfold sSemi; rw [← he17 q14, c217, c226]; rfl
                  have q13 := (sNum_ok q14).1
                  have q12 := (sTake_ok q13).1
                  have q11 := (sNum_ok q12).1
                  have q10 := (sTake_ok q11).1
                  have q9 := (sNum_ok q10).1
                  have q8 := (sTake_ok q9).1
                  have q7 := (sNum_ok q8).1
                  have q6 := (sTake_ok q7).1
                  have q5 := (sNum_ok q6).1
                  have q4 := (sTake_ok q5).1
                  have q4e := (sErr_ok (by decide)).mp (sNext_ok.mp q4)
                  have q3 := ((sErr_ok (by decide)).mp q4e.1).1
                  have q2 := sNext_ok.mp (sTake_ok q3).1
                  have r2 := he2 q2
                  have r5 := hy5 q4e.1
                  have r8 := hx8 q6
                  have r10 := hx10 q8
                  have r12 := hx12 q10
                  have r14 := hx14 q12
                  have r16 := hx16 q14
                  have b8 := (sNum_ok q6).2.2
                  have b10 := (sNum_ok q8).2.2
                  have b12 := (sNum_ok q10).2.2
                  have b14 := (sNum_ok q12).2.2
                  have b16 := (sNum_ok q14).2.2
                  have eV : vset (vset (vset (vset (vset (vset (vlet v (268 + 23 * v 8 + 17) B (tS B n e2) (tE B n e2)) (268 + 23 * v 8 + 0) x5) (268 + 23 * v 8 + 1) x8) (268 + 23 * v 8 + 2) x10) (268 + 23 * v 8 + 3) x12) (268 + 23 * v 8 + 4) x14) (268 + 23 * v 8 + 5) x16 = vGrp B n v s := by
                    subst r2
                    have e5 : (gpt B n v s).getD 0 = x5 := by
                      cases q : gpt B n v s with
                      | none => have := q4e.2; rw [q] at this; cases this
                      | some t => exact (hz5 q4e.1 t q).symm
                    unfold vGrp
                    rw [e5, r8, r10, r12, r14, r16]
                    rfl
                  have hv8 : vGrp B n v s 8 = v 8 := by rw [← eV]; rw [vset_off (by omega), vset_off (by omega), vset_off (by omega), vset_off (by omega), vset_off (by omega), vset_off (by omega), vlet_off (by omega)]
                  have hA17v : zRA M17 120 (vGrp B n v s) := eV ▸ hA17
                  have hpq : zPq (vGrp B n v s) (v 8) := by
                    have hag : ∀ j, zAc v j → vGrp B n v s j = v j := fun j hj => by
                      unfold zAc at hj
                      rw [← eV]
                      rw [vset_off (by omega), vset_off (by omega), vset_off (by omega), vset_off (by omega), vset_off (by omega), vset_off (by omega), vlet_off (by omega)]
                    refine ⟨hW.ag hag, hv8, hlt, ?_, ?_⟩
                    · show vGrp B n v s (268 + 23 * v 8 + 2) + vGrp B n v s (268 + 23 * v 8 + 3) ≤ 10
                      unfold vGrp
                      rw [vset_off (show 268 + 23 * v 8 + 2 ≠ 268 + 23 * v 8 + 5 by omega), vset_off (show 268 + 23 * v 8 + 2 ≠ 268 + 23 * v 8 + 4 by omega), vset_off (show 268 + 23 * v 8 + 2 ≠ 268 + 23 * v 8 + 3 by omega), vset_at, vset_off (show 268 + 23 * v 8 + 3 ≠ 268 + 23 * v 8 + 5 by omega), vset_off (show 268 + 23 * v 8 + 3 ≠ 268 + 23 * v 8 + 4 by omega), vset_at]
                      have c10 : tN B n (gp7 B n v s).2.2 ≤ 6 := b10.2
                      have c12 : tN B n (gp9 B n v s).2.2 ≤ 4 := b12.2
                      omega
                    · unfold vGrp
                      rw [vset_off (by omega), vset_off (by omega), vset_off (by omega), vset_off (by omega), vset_at]
                      exact b8.2
                  refine zj_aload0 (n := 230) rfl dX10_parseGroup_229 ?_
                  refine zj_iload1 (n := 231) rfl dX10_parseGroup_230 ?_
                  refine zj_callV1 (n := 234) (a' := 0) (b' := 0) rfl dX10_parseGroup_231 zm_X10_360 (by decide) (by decide) rfl (Nat.le_of_ble_eq_true rfl) (Nat.le_of_ble_eq_true rfl) (Nat.le_of_ble_eq_true rfl) (Nat.le_of_ble_eq_true rfl) (jX10_isPlaced (v := vGrp B n v s) hA17v hpq ?_)
                  intro M18 u18 b18 hg18 hA18 hb18 hbs hu18
                  refine zj_ifB_ne (n := 237) (tgt := 242) rfl dX10_parseGroup_234 (by decide) (fun c234 => ?_) (fun c234 => ?_)
                  · obtain ⟨p9, hp9⟩ := hb18 c234
                    refine zj_gen (P := fun M20 => ∃ w, zHf M M20 ∧ zPm M20 n B (gp15 B n v s) ∧ zRA M20 120 w ∧ w 8 = v 8 ∧ ((sEnd B n (gp15 B n v s)).1 = 0 → vset w 8 (v 8 + 1) = vGrpF B n v s)) ⟨_, (hg18.hf hF17), (by rw [g15y hsem (by rw [hp9]; rfl)]; exact hg18.pm hP17), hA18, (by rw [hu18 8 (by omega)]; exact hv8), (fun _ => by unfold vGrpF; rw [hp9])⟩ ?_
                    intro M20 h20
                    obtain ⟨w, hF21, hP21, hA21, hw8, hwV⟩ := h20
                    refine zj_aload0 (n := 243) rfl dX10_parseGroup_242 ?_
                    refine zj_callV0 (n := 246) (a' := 0) (b' := 0) rfl dX10_parseGroup_243 zm_X10_226 (by decide) (by decide) rfl (Nat.le_of_ble_eq_true rfl) (Nat.le_of_ble_eq_true rfl) (Nat.le_of_ble_eq_true rfl) (Nat.le_of_ble_eq_true rfl) (jX10_good hP21 ?_)
                    refine zj_ifB_eq (n := 249) (tgt := 260) rfl dX10_parseGroup_246 (by decide) (fun c246 => ?_) (fun c246 => ?_)
                    · exact zj_return dX10_parseGroup_260 rfl (h M20 w hF21 hP21 hA21 (fun q => absurd (sEndOk q).1 (of_decide_eq_false c246)))
                    · refine zj_aload0 (n := 250) rfl dX10_parseGroup_249 ?_
                      refine zj_getr (n := 253) (q := 120) rfl dX10_parseGroup_250 zf_X10_24 rfl (by decide) (by decide) hA21.now ?_
                      refine zj_bipushN (v := 8) (n := 255) rfl dX10_parseGroup_253 (by decide) ?_
                      refine zj_dup2 (n := 256) rfl dX10_parseGroup_255 ?_
                      refine zj_ialoadN (e := v 8) (n := 257) rfl dX10_parseGroup_256 (by decide) rfl (by rw [show zLen 120 = 698 from rfl]; omega) (by rw [hA21.2.2 8 (by decide), hw8]) ?_
                      refine zj_iconstN_1 (n := 258) rfl dX10_parseGroup_257 ?_
                      refine zj_iaddN (n := 259) rfl dX10_parseGroup_258 ?_
                      refine zj_iastoreN (n := 260) rfl dX10_parseGroup_259 (by decide) rfl (by rw [show zLen 120 = 698 from rfl]; omega) ?_
                      refine zj_return dX10_parseGroup_260 rfl ?_
                      exact h _ _ hF21.put hP21.st hA21.set hwV
                  · refine zj_aload0 (n := 238) rfl dX10_parseGroup_237 ?_
                    refine zj_iconstN_5 (n := 239) rfl dX10_parseGroup_238 ?_
                    refine zj_callV1 (n := 242) (a' := 0) (b' := 0) rfl dX10_parseGroup_239 zm_X10_317 (by decide) (by decide) rfl (Nat.le_of_ble_eq_true rfl) (Nat.le_of_ble_eq_true rfl) (Nat.le_of_ble_eq_true rfl) (Nat.le_of_ble_eq_true rfl) (jX10_errs (hg18.pm hP17) (by decide) ?_)
                    intro M19 hG19 hP19
                    refine zj_gen (P := fun M20 => ∃ w, zHf M M20 ∧ zPm M20 n B (gp15 B n v s) ∧ zRA M20 120 w ∧ w 8 = v 8 ∧ ((sEnd B n (gp15 B n v s)).1 = 0 → vset w 8 (v 8 + 1) = vGrpF B n v s)) ⟨_, ((hg18.hf hF17).tr (zHf.of2 hG19)), (by rw [g15f hsem (by rw [c234] at hbs; cases hz : plS (vGrp B n v s) (v 8) (vsh (vGrp B n v s) (v 8)); rfl; rw [hz] at hbs; cases hbs)]; exact hP19), (hA18.gf hG19), (by rw [hu18 8 (by omega)]; exact hv8), (fun q => absurd (sEndOk q).1 (by rw [g15f hsem (by rw [c234] at hbs; cases hz : plS (vGrp B n v s) (v 8) (vsh (vGrp B n v s) (v 8)); rfl; rw [hz] at hbs; cases hbs), sRef_e q14]; simp))⟩ ?_
                    intro M20 h20
                    obtain ⟨w, hF21, hP21, hA21, hw8, hwV⟩ := h20
                    refine zj_aload0 (n := 243) rfl dX10_parseGroup_242 ?_
                    refine zj_callV0 (n := 246) (a' := 0) (b' := 0) rfl dX10_parseGroup_243 zm_X10_226 (by decide) (by decide) rfl (Nat.le_of_ble_eq_true rfl) (Nat.le_of_ble_eq_true rfl) (Nat.le_of_ble_eq_true rfl) (Nat.le_of_ble_eq_true rfl) (jX10_good hP21 ?_)
                    refine zj_ifB_eq (n := 249) (tgt := 260) rfl dX10_parseGroup_246 (by decide) (fun c246 => ?_) (fun c246 => ?_)
                    · exact zj_return dX10_parseGroup_260 rfl (h M20 w hF21 hP21 hA21 (fun q => absurd (sEndOk q).1 (of_decide_eq_false c246)))
                    · refine zj_aload0 (n := 250) rfl dX10_parseGroup_249 ?_
                      refine zj_getr (n := 253) (q := 120) rfl dX10_parseGroup_250 zf_X10_24 rfl (by decide) (by decide) hA21.now ?_
                      refine zj_bipushN (v := 8) (n := 255) rfl dX10_parseGroup_253 (by decide) ?_
                      refine zj_dup2 (n := 256) rfl dX10_parseGroup_255 ?_
                      refine zj_ialoadN (e := v 8) (n := 257) rfl dX10_parseGroup_256 (by decide) rfl (by rw [show zLen 120 = 698 from rfl]; omega) (by rw [hA21.2.2 8 (by decide), hw8]) ?_
                      refine zj_iconstN_1 (n := 258) rfl dX10_parseGroup_257 ?_
                      refine zj_iaddN (n := 259) rfl dX10_parseGroup_258 ?_
                      refine zj_iastoreN (n := 260) rfl dX10_parseGroup_259 (by decide) rfl (by rw [show zLen 120 = 698 from rfl]; omega) ?_
                      refine zj_return dX10_parseGroup_260 rfl ?_
                      exact h _ _ hF21.put hP21.st hA21.set hwV
      · have hsb := (sErr_ok (by decide)).mp (of_decide_eq_true c73)
        have eS4 : gp4c B n v s = gp3 B n v s := sErr_eq hsb.2
        obtain ⟨hT4, -, -, -, -, e4, hen4, hK4, he4⟩ := id hP4
        have ee4 : e4 = (gp3 B n v s).2.2 := by have := he4 (of_decide_eq_true c73); rw [eS4] at this; exact this
        have hkd : tK B n (gp3 B n v s).2.2 = 1 := by have q := hsb.2; unfold sBadN at q; simp only [Bool.or_eq_false_iff, Bool.not_eq_false', beq_iff_eq] at q; exact q.1.1
        have hts4 := tS_le (B := B) hen4
        have hte4 := tE_le (B := B) hen4
        rw [ee4] at hK4 hts4 hte4
        refine zj_aload0 (n := 77) rfl dX10_parseGroup_76 ?_
        refine zj_iconstN_1 (n := 78) rfl dX10_parseGroup_77 ?_
        refine zj_callV1 (n := 81) (a' := 0) (b' := 0) rfl dX10_parseGroup_78 zm_X10_343 (by decide) (by decide) rfl (Nat.le_of_ble_eq_true rfl) (Nat.le_of_ble_eq_true rfl) (Nat.le_of_ble_eq_true rfl) (Nat.le_of_ble_eq_true rfl) (jX10_kindNamed (f := tS B n (gp3 B n v s).2.2) (t := tE B n (gp3 B n v s).2.2) hA4 (hW.ag (fun j hj => by unfold zAc at hj; rw [vlet_off (by omega)])) (hN.ag (fun j hj => by unfold zAc at hj; rw [vlet_off (by omega)])) (by decide) hT4.2.2 hT4.1 hK4.2.1 hK4.2.2.1 (by omega) (by omega) (fun i hi => tLet hkd (by omega)) ?_)
        rw [kfind_ag (v := v) (by decide) (fun j hj => by unfold zAc at hj; rw [vlet_off (by omega)])]
        refine zj_goto (tgt := 85) dX10_parseGroup_81 (by decide) ?_
        obtain ⟨x5, hx5, hy5, hz5⟩ : ∃ x5, nI x5 = zo (gpt B n v s) ∧ ((gp4c B n v s).1 = 0 → nI x5 = zo (gpt B n v s)) ∧ ((gp4c B n v s).1 = 0 → ∀ t, gpt B n v s = some t → x5 = t) := by
          cases q : gpt B n v s with
          | none => exact ⟨4294967295, rfl, fun _ => rfl, fun _ t w => by cases w⟩
          | some t => exact ⟨t, rfl, fun _ => rfl, fun _ t9 w => by cases w; rfl⟩
        rw [show zo (kfind v 1 B (tS B n (gp3 B n v s).2.2) (tE B n (gp3 B n v s).2.2)) = nI x5 from hx5.symm]
        refine zj_iastoreN (n := 86) rfl dX10_parseGroup_85 (by decide) rfl (by rw [show zLen 120 = 698 from rfl]; omega) ?_
        refine zj_gen (P := fun M5 => zHf M M5 ∧ zPm M5 n B (gp4c B n v s) ∧ zRA M5 120 (vset (vlet v (268 + 23 * v 8 + 17) B (tS B n e2) (tE B n e2)) (268 + 23 * v 8 + 0) x5)) ⟨hF4.put, hP4.st, hA4.set⟩ ?_
        intro M5 h5
        obtain ⟨hF5, hP5, hA5⟩ := h5
        refine zj_aload0 (n := 87) rfl dX10_parseGroup_86 ?_
        refine zj_callV0 (n := 90) (a' := 0) (b' := 0) rfl dX10_parseGroup_87 zm_X10_226 (by decide) (by decide) rfl (Nat.le_of_ble_eq_true rfl) (Nat.le_of_ble_eq_true rfl) (Nat.le_of_ble_eq_true rfl) (Nat.le_of_ble_eq_true rfl) (jX10_good hP5 ?_)
        refine zj_ifB_eq (n := 93) (tgt := 110) rfl dX10_parseGroup_90 (by decide) (fun c90 => ?_) (fun c90 => ?_)
        · refine zj_gen (P := fun M6 => zHf M M6 ∧ zPm M6 n B (gp4e B n v s) ∧ zRA M6 120 (vset (vlet v (268 + 23 * v 8 + 17) B (tS B n e2) (tE B n e2)) (268 + 23 * v 8 + 0) x5)) ⟨hF5, (by unfold gp4e; rw [sErr_no (of_decide_eq_false c90)]; exact hP5), hA5⟩ ?_
          intro M6 h6
          obtain ⟨hF6, hP6, hA6⟩ := h6
          refine zj_aload0 (n := 111) rfl dX10_parseGroup_110 ?_
          refine zj_callV0 (n := 114) (a' := 0) (b' := 0) rfl dX10_parseGroup_111 zm_X10_320 (by decide) (by decide) rfl (Nat.le_of_ble_eq_true rfl) (Nat.le_of_ble_eq_true rfl) (Nat.le_of_ble_eq_true rfl) (Nat.le_of_ble_eq_true rfl) (jX10_goOn hP6 ?_)
          intro M7 hG7 hP7
          have hF7 : zHf M M7 := hF6.tr (zHf.of hG7)
          have hA7 := hA6.gf hG7
          change zPm M7 n B (gp4 B n v s) at hP7
          refine zj_aload0 (n := 115) rfl dX10_parseGroup_114 ?_
          refine zj_getr (n := 118) (q := 120) rfl dX10_parseGroup_115 zf_X10_24 rfl (by decide) (by decide) hA7.now ?_
          refine zj_iload2 (n := 119) rfl dX10_parseGroup_118 ?_
          refine zj_iconstN_1 (n := 120) rfl dX10_parseGroup_119 ?_
          refine zj_iaddN (n := 121) rfl dX10_parseGroup_120 ?_
          refine zj_aload0 (n := 122) rfl dX10_parseGroup_121 ?_
          refine zj_ldcwS (i := 18) (n := 125) rfl dX10_parseGroup_122 rfl (by decide) rfl ?_
          refine zj_iconstN_0 (n := 126) rfl dX10_parseGroup_125 ?_
          refine zj_sipushN (v := 9999) (n := 129) rfl dX10_parseGroup_126 (by decide) ?_
          refine zj_callV3 (n := 132) (a' := 0) (b' := 0) rfl dX10_parseGroup_129 zm_X10_355 (by decide) (by decide) rfl (Nat.le_of_ble_eq_true rfl) (Nat.le_of_ble_eq_true rfl) (Nat.le_of_ble_eq_true rfl) (Nat.le_of_ble_eq_true rfl) (jX10_numberAfter hP7 (by decide) (by decide) (by decide) ?_)
          intro M8 x8 hx8b hG8 hP8 hx8
          have hF8 : zHf M M8 := hF7.tr (zHf.of hG8)
          have hA8 := hA7.gf hG8
          change zPm M8 n B (gp6 B n v s) at hP8
          refine zj_iastoreN (n := 133) rfl dX10_parseGroup_132 (by decide) rfl (by rw [show zLen 120 = 698 from rfl]; omega) ?_
          refine zj_gen (P := fun M9 => zHf M M9 ∧ zPm M9 n B (gp6 B n v s) ∧ zRA M9 120 (vset (vset (vlet v (268 + 23 * v 8 + 17) B (tS B n e2) (tE B n e2)) (268 + 23 * v 8 + 0) x5) (268 + 23 * v 8 + 1) x8)) ⟨hF8.put, hP8.st, hA8.set⟩ ?_
          intro M9 h9
          obtain ⟨hF9, hP9, hA9⟩ := h9
          refine zj_aload0 (n := 134) rfl dX10_parseGroup_133 ?_
          refine zj_getr (n := 137) (q := 120) rfl dX10_parseGroup_134 zf_X10_24 rfl (by decide) (by decide) hA9.now ?_
          refine zj_iload2 (n := 138) rfl dX10_parseGroup_137 ?_
          refine zj_iconstN_2 (n := 139) rfl dX10_parseGroup_138 ?_
          refine zj_iaddN (n := 140) rfl dX10_parseGroup_139 ?_
          refine zj_aload0 (n := 141) rfl dX10_parseGroup_140 ?_
          refine zj_ldcwS (i := 19) (n := 144) rfl dX10_parseGroup_141 rfl (by decide) rfl ?_
          refine zj_iconstN_1 (n := 145) rfl dX10_parseGroup_144 ?_
          refine zj_bipushN (v := 6) (n := 147) rfl dX10_parseGroup_145 (by decide) ?_
          refine zj_callV3 (n := 150) (a' := 0) (b' := 0) rfl dX10_parseGroup_147 zm_X10_355 (by decide) (by decide) rfl (Nat.le_of_ble_eq_true rfl) (Nat.le_of_ble_eq_true rfl) (Nat.le_of_ble_eq_true rfl) (Nat.le_of_ble_eq_true rfl) (jX10_numberAfter hP9 (by decide) (by decide) (by decide) ?_)
          intro M10 x10 hx10b hG10 hP10 hx10
          have hF10 : zHf M M10 := hF9.tr (zHf.of hG10)
          have hA10 := hA9.gf hG10
          change zPm M10 n B (gp8 B n v s) at hP10
          refine zj_iastoreN (n := 151) rfl dX10_parseGroup_150 (by decide) rfl (by rw [show zLen 120 = 698 from rfl]; omega) ?_
          refine zj_gen (P := fun M11 => zHf M M11 ∧ zPm M11 n B (gp8 B n v s) ∧ zRA M11 120 (vset (vset (vset (vlet v (268 + 23 * v 8 + 17) B (tS B n e2) (tE B n e2)) (268 + 23 * v 8 + 0) x5) (268 + 23 * v 8 + 1) x8) (268 + 23 * v 8 + 2) x10)) ⟨hF10.put, hP10.st, hA10.set⟩ ?_
          intro M11 h11
          obtain ⟨hF11, hP11, hA11⟩ := h11
          refine zj_aload0 (n := 152) rfl dX10_parseGroup_151 ?_
          refine zj_getr (n := 155) (q := 120) rfl dX10_parseGroup_152 zf_X10_24 rfl (by decide) (by decide) hA11.now ?_
          refine zj_iload2 (n := 156) rfl dX10_parseGroup_155 ?_
          refine zj_iconstN_3 (n := 157) rfl dX10_parseGroup_156 ?_
          refine zj_iaddN (n := 158) rfl dX10_parseGroup_157 ?_
          refine zj_aload0 (n := 159) rfl dX10_parseGroup_158 ?_
          refine zj_ldcwS (i := 20) (n := 162) rfl dX10_parseGroup_159 rfl (by decide) rfl ?_
          refine zj_iconstN_1 (n := 163) rfl dX10_parseGroup_162 ?_
          refine zj_iconstN_4 (n := 164) rfl dX10_parseGroup_163 ?_
          refine zj_callV3 (n := 167) (a' := 0) (b' := 0) rfl dX10_parseGroup_164 zm_X10_355 (by decide) (by decide) rfl (Nat.le_of_ble_eq_true rfl) (Nat.le_of_ble_eq_true rfl) (Nat.le_of_ble_eq_true rfl) (Nat.le_of_ble_eq_true rfl) (jX10_numberAfter hP11 (by decide) (by decide) (by decide) ?_)
          intro M12 x12 hx12b hG12 hP12 hx12
          have hF12 : zHf M M12 := hF11.tr (zHf.of hG12)
          have hA12 := hA11.gf hG12
          change zPm M12 n B (gp10 B n v s) at hP12
          refine zj_iastoreN (n := 168) rfl dX10_parseGroup_167 (by decide) rfl (by rw [show zLen 120 = 698 from rfl]; omega) ?_
          refine zj_gen (P := fun M13 => zHf M M13 ∧ zPm M13 n B (gp10 B n v s) ∧ zRA M13 120 (vset (vset (vset (vset (vlet v (268 + 23 * v 8 + 17) B (tS B n e2) (tE B n e2)) (268 + 23 * v 8 + 0) x5) (268 + 23 * v 8 + 1) x8) (268 + 23 * v 8 + 2) x10) (268 + 23 * v 8 + 3) x12)) ⟨hF12.put, hP12.st, hA12.set⟩ ?_
          intro M13 h13
          obtain ⟨hF13, hP13, hA13⟩ := h13
          refine zj_aload0 (n := 169) rfl dX10_parseGroup_168 ?_
          refine zj_getr (n := 172) (q := 120) rfl dX10_parseGroup_169 zf_X10_24 rfl (by decide) (by decide) hA13.now ?_
          refine zj_iload2 (n := 173) rfl dX10_parseGroup_172 ?_
          refine zj_iconstN_4 (n := 174) rfl dX10_parseGroup_173 ?_
          refine zj_iaddN (n := 175) rfl dX10_parseGroup_174 ?_
          refine zj_aload0 (n := 176) rfl dX10_parseGroup_175 ?_
          refine zj_ldcwS (i := 21) (n := 179) rfl dX10_parseGroup_176 rfl (by decide) rfl ?_
          refine zj_iconstN_1 (n := 180) rfl dX10_parseGroup_179 ?_
          refine zj_bipushN (v := 100) (n := 182) rfl dX10_parseGroup_180 (by decide) ?_
          refine zj_callV3 (n := 185) (a' := 0) (b' := 0) rfl dX10_parseGroup_182 zm_X10_355 (by decide) (by decide) rfl (Nat.le_of_ble_eq_true rfl) (Nat.le_of_ble_eq_true rfl) (Nat.le_of_ble_eq_true rfl) (Nat.le_of_ble_eq_true rfl) (jX10_numberAfter hP13 (by decide) (by decide) (by decide) ?_)
          intro M14 x14 hx14b hG14 hP14 hx14
          have hF14 : zHf M M14 := hF13.tr (zHf.of hG14)
          have hA14 := hA13.gf hG14
          change zPm M14 n B (gp12 B n v s) at hP14
          refine zj_iastoreN (n := 186) rfl dX10_parseGroup_185 (by decide) rfl (by rw [show zLen 120 = 698 from rfl]; omega) ?_
          refine zj_gen (P := fun M15 => zHf M M15 ∧ zPm M15 n B (gp12 B n v s) ∧ zRA M15 120 (vset (vset (vset (vset (vset (vlet v (268 + 23 * v 8 + 17) B (tS B n e2) (tE B n e2)) (268 + 23 * v 8 + 0) x5) (268 + 23 * v 8 + 1) x8) (268 + 23 * v 8 + 2) x10) (268 + 23 * v 8 + 3) x12) (268 + 23 * v 8 + 4) x14)) ⟨hF14.put, hP14.st, hA14.set⟩ ?_
          intro M15 h15
          obtain ⟨hF15, hP15, hA15⟩ := h15
          refine zj_aload0 (n := 187) rfl dX10_parseGroup_186 ?_
          refine zj_getr (n := 190) (q := 120) rfl dX10_parseGroup_187 zf_X10_24 rfl (by decide) (by decide) hA15.now ?_
          refine zj_iload2 (n := 191) rfl dX10_parseGroup_190 ?_
          refine zj_iconstN_5 (n := 192) rfl dX10_parseGroup_191 ?_
          refine zj_iaddN (n := 193) rfl dX10_parseGroup_192 ?_
          refine zj_aload0 (n := 194) rfl dX10_parseGroup_193 ?_
          refine zj_ldcwS (i := 22) (n := 197) rfl dX10_parseGroup_194 rfl (by decide) rfl ?_
          refine zj_iconstN_1 (n := 198) rfl dX10_parseGroup_197 ?_
          refine zj_sipushN (v := 9999) (n := 201) rfl dX10_parseGroup_198 (by decide) ?_
          refine zj_callV3 (n := 204) (a' := 0) (b' := 0) rfl dX10_parseGroup_201 zm_X10_355 (by decide) (by decide) rfl (Nat.le_of_ble_eq_true rfl) (Nat.le_of_ble_eq_true rfl) (Nat.le_of_ble_eq_true rfl) (Nat.le_of_ble_eq_true rfl) (jX10_numberAfter hP15 (by decide) (by decide) (by decide) ?_)
          intro M16 x16 hx16b hG16 hP16 hx16
          have hF16 : zHf M M16 := hF15.tr (zHf.of hG16)
          have hA16 := hA15.gf hG16
          change zPm M16 n B (gp14 B n v s) at hP16
          refine zj_iastoreN (n := 205) rfl dX10_parseGroup_204 (by decide) rfl (by rw [show zLen 120 = 698 from rfl]; omega) ?_
          refine zj_gen (P := fun M17 => zHf M M17 ∧ zPm M17 n B (gp14 B n v s) ∧ zRA M17 120 (vset (vset (vset (vset (vset (vset (vlet v (268 + 23 * v 8 + 17) B (tS B n e2) (tE B n e2)) (268 + 23 * v 8 + 0) x5) (268 + 23 * v 8 + 1) x8) (268 + 23 * v 8 + 2) x10) (268 + 23 * v 8 + 3) x12) (268 + 23 * v 8 + 4) x14) (268 + 23 * v 8 + 5) x16)) ⟨hF16.put, hP16.st, hA16.set⟩ ?_
          intro M17 h17
          obtain ⟨hF17, hP17, hA17⟩ := h17
          obtain ⟨hT17, -, -, -, -, e17, hen17, hK17, he17⟩ := id hP17
          have hts17 := tS_le (B := B) hen17
          have hk17 : tK B n e17 ≤ 3 := sK_le
          refine zj_aload0 (n := 206) rfl dX10_parseGroup_205 ?_
          refine zj_callV0 (n := 209) (a' := 0) (b' := 0) rfl dX10_parseGroup_206 zm_X10_226 (by decide) (by decide) rfl (Nat.le_of_ble_eq_true rfl) (Nat.le_of_ble_eq_true rfl) (Nat.le_of_ble_eq_true rfl) (Nat.le_of_ble_eq_true rfl) (jX10_good hP17 ?_)
          refine zj_ifB_eq (n := 212) (tgt := 242) rfl dX10_parseGroup_209 (by decide) (fun c209 => ?_) (fun c209 => ?_)
          · refine zj_gen (P := fun M20 => ∃ w, zHf M M20 ∧ zPm M20 n B (gp15 B n v s) ∧ zRA M20 120 w ∧ w 8 = v 8 ∧ ((sEnd B n (gp15 B n v s)).1 = 0 → vset w 8 (v 8 + 1) = vGrpF B n v s)) ⟨_, hF17, (by rw [g15n (of_decide_eq_false c209)]; exact hP17), hA17, (by rw [vset_off (by omega), vset_off (by omega), vset_off (by omega), vset_off (by omega), vset_off (by omega), vset_off (by omega), vlet_off (by omega)]), (fun q => absurd (sEndOk q).1 (by rw [g15n (of_decide_eq_false c209)]; exact of_decide_eq_false c209))⟩ ?_
            intro M20 h20
            obtain ⟨w, hF21, hP21, hA21, hw8, hwV⟩ := h20
            refine zj_aload0 (n := 243) rfl dX10_parseGroup_242 ?_
            refine zj_callV0 (n := 246) (a' := 0) (b' := 0) rfl dX10_parseGroup_243 zm_X10_226 (by decide) (by decide) rfl (Nat.le_of_ble_eq_true rfl) (Nat.le_of_ble_eq_true rfl) (Nat.le_of_ble_eq_true rfl) (Nat.le_of_ble_eq_true rfl) (jX10_good hP21 ?_)
            refine zj_ifB_eq (n := 249) (tgt := 260) rfl dX10_parseGroup_246 (by decide) (fun c246 => ?_) (fun c246 => ?_)
            · exact zj_return dX10_parseGroup_260 rfl (h M20 w hF21 hP21 hA21 (fun q => absurd (sEndOk q).1 (of_decide_eq_false c246)))
            · refine zj_aload0 (n := 250) rfl dX10_parseGroup_249 ?_
              refine zj_getr (n := 253) (q := 120) rfl dX10_parseGroup_250 zf_X10_24 rfl (by decide) (by decide) hA21.now ?_
              refine zj_bipushN (v := 8) (n := 255) rfl dX10_parseGroup_253 (by decide) ?_
              refine zj_dup2 (n := 256) rfl dX10_parseGroup_255 ?_
              refine zj_ialoadN (e := v 8) (n := 257) rfl dX10_parseGroup_256 (by decide) rfl (by rw [show zLen 120 = 698 from rfl]; omega) (by rw [hA21.2.2 8 (by decide), hw8]) ?_
              refine zj_iconstN_1 (n := 258) rfl dX10_parseGroup_257 ?_
              refine zj_iaddN (n := 259) rfl dX10_parseGroup_258 ?_
              refine zj_iastoreN (n := 260) rfl dX10_parseGroup_259 (by decide) rfl (by rw [show zLen 120 = 698 from rfl]; omega) ?_
              refine zj_return dX10_parseGroup_260 rfl ?_
              exact h _ _ hF21.put hP21.st hA21.set hwV
          · have q14 := of_decide_eq_true c209
            refine zj_aload0 (n := 213) rfl dX10_parseGroup_212 ?_
            refine zj_getiN (e := tK B n e17) (n := 216) rfl dX10_parseGroup_213 zf_X10_242 rfl (by decide) (by decide) hK17.1 ?_
            refine zj_iconstN_3 (n := 217) rfl dX10_parseGroup_216 ?_
            refine zj_icmpN_ne (n := 220) (tgt := 242) rfl dX10_parseGroup_217 (by decide) (by omega) (by omega) (fun c217 => ?_) (fun c217 => ?_)
            · refine zj_gen (P := fun M20 => ∃ w, zHf M M20 ∧ zPm M20 n B (gp15 B n v s) ∧ zRA M20 120 w ∧ w 8 = v 8 ∧ ((sEnd B n (gp15 B n v s)).1 = 0 → vset w 8 (v 8 + 1) = vGrpF B n v s)) ⟨_, hF17, (by rw [g15s (by unfold sSemi; rw [← he17 q14, beq_false_of_ne c217]; rfl)]; exact hP17), hA17, (by rw [vset_off (by omega), vset_off (by omega), vset_off (by omega), vset_off (by omega), vset_off (by omega), vset_off (by omega), vlet_off (by omega)]), (fun q => absurd (sEndOk q).2 (by rw [g15s (by unfold sSemi; rw [← he17 q14, beq_false_of_ne c217]; rfl)]; unfold sSemi; rw [← he17 q14, beq_false_of_ne c217]; simp))⟩ ?_
              intro M20 h20
              obtain ⟨w, hF21, hP21, hA21, hw8, hwV⟩ := h20
              refine zj_aload0 (n := 243) rfl dX10_parseGroup_242 ?_
              refine zj_callV0 (n := 246) (a' := 0) (b' := 0) rfl dX10_parseGroup_243 zm_X10_226 (by decide) (by decide) rfl (Nat.le_of_ble_eq_true rfl) (Nat.le_of_ble_eq_true rfl) (Nat.le_of_ble_eq_true rfl) (Nat.le_of_ble_eq_true rfl) (jX10_good hP21 ?_)
              refine zj_ifB_eq (n := 249) (tgt := 260) rfl dX10_parseGroup_246 (by decide) (fun c246 => ?_) (fun c246 => ?_)
              · exact zj_return dX10_parseGroup_260 rfl (h M20 w hF21 hP21 hA21 (fun q => absurd (sEndOk q).1 (of_decide_eq_false c246)))
              · refine zj_aload0 (n := 250) rfl dX10_parseGroup_249 ?_
                refine zj_getr (n := 253) (q := 120) rfl dX10_parseGroup_250 zf_X10_24 rfl (by decide) (by decide) hA21.now ?_
                refine zj_bipushN (v := 8) (n := 255) rfl dX10_parseGroup_253 (by decide) ?_
                refine zj_dup2 (n := 256) rfl dX10_parseGroup_255 ?_
                refine zj_ialoadN (e := v 8) (n := 257) rfl dX10_parseGroup_256 (by decide) rfl (by rw [show zLen 120 = 698 from rfl]; omega) (by rw [hA21.2.2 8 (by decide), hw8]) ?_
                refine zj_iconstN_1 (n := 258) rfl dX10_parseGroup_257 ?_
                refine zj_iaddN (n := 259) rfl dX10_parseGroup_258 ?_
                refine zj_iastoreN (n := 260) rfl dX10_parseGroup_259 (by decide) rfl (by rw [show zLen 120 = 698 from rfl]; omega) ?_
                refine zj_return dX10_parseGroup_260 rfl ?_
                exact h _ _ hF21.put hP21.st hA21.set hwV
            · refine zj_aload0 (n := 221) rfl dX10_parseGroup_220 ?_
              refine zj_getiN (e := B (tS B n e17)) (n := 224) rfl dX10_parseGroup_221 zf_X10_253 rfl (by decide) (by decide) (hK17.2.2.2.2 c217) ?_
              have hsn17 : tS B n e17 < n := by
                by_cases w : tS B n e17 < n
                · exact w
                · rw [show tK B n e17 = 0 from sK_0.mpr w] at c217; cases c217
              have hb17 := (hT17.2.2 _ hsn17).1
              refine zj_bipushN (v := 59) (n := 226) rfl dX10_parseGroup_224 (by decide) ?_
              refine zj_icmpN_ne (n := 229) (tgt := 242) rfl dX10_parseGroup_226 (by decide) (by omega) (by omega) (fun c226 => ?_) (fun c226 => ?_)
              · refine zj_gen (P := fun M20 => ∃ w, zHf M M20 ∧ zPm M20 n B (gp15 B n v s) ∧ zRA M20 120 w ∧ w 8 = v 8 ∧ ((sEnd B n (gp15 B n v s)).1 = 0 → vset w 8 (v 8 + 1) = vGrpF B n v s)) ⟨_, hF17, (by rw [g15s (by unfold sSemi; rw [← he17 q14, beq_false_of_ne c226, Bool.and_false])]; exact hP17), hA17, (by rw [vset_off (by omega), vset_off (by omega), vset_off (by omega), vset_off (by omega), vset_off (by omega), vset_off (by omega), vlet_off (by omega)]), (fun q => absurd (sEndOk q).2 (by rw [g15s (by unfold sSemi; rw [← he17 q14, beq_false_of_ne c226, Bool.and_false])]; unfold sSemi; rw [← he17 q14, beq_false_of_ne c226]; simp))⟩ ?_
                intro M20 h20
                obtain ⟨w, hF21, hP21, hA21, hw8, hwV⟩ := h20
                refine zj_aload0 (n := 243) rfl dX10_parseGroup_242 ?_
                refine zj_callV0 (n := 246) (a' := 0) (b' := 0) rfl dX10_parseGroup_243 zm_X10_226 (by decide) (by decide) rfl (Nat.le_of_ble_eq_true rfl) (Nat.le_of_ble_eq_true rfl) (Nat.le_of_ble_eq_true rfl) (Nat.le_of_ble_eq_true rfl) (jX10_good hP21 ?_)
                refine zj_ifB_eq (n := 249) (tgt := 260) rfl dX10_parseGroup_246 (by decide) (fun c246 => ?_) (fun c246 => ?_)
                · exact zj_return dX10_parseGroup_260 rfl (h M20 w hF21 hP21 hA21 (fun q => absurd (sEndOk q).1 (of_decide_eq_false c246)))
                · refine zj_aload0 (n := 250) rfl dX10_parseGroup_249 ?_
                  refine zj_getr (n := 253) (q := 120) rfl dX10_parseGroup_250 zf_X10_24 rfl (by decide) (by decide) hA21.now ?_
                  refine zj_bipushN (v := 8) (n := 255) rfl dX10_parseGroup_253 (by decide) ?_
                  refine zj_dup2 (n := 256) rfl dX10_parseGroup_255 ?_
                  refine zj_ialoadN (e := v 8) (n := 257) rfl dX10_parseGroup_256 (by decide) rfl (by rw [show zLen 120 = 698 from rfl]; omega) (by rw [hA21.2.2 8 (by decide), hw8]) ?_
                  refine zj_iconstN_1 (n := 258) rfl dX10_parseGroup_257 ?_
                  refine zj_iaddN (n := 259) rfl dX10_parseGroup_258 ?_
                  refine zj_iastoreN (n := 260) rfl dX10_parseGroup_259 (by decide) rfl (by rw [show zLen 120 = 698 from rfl]; omega) ?_
                  refine zj_return dX10_parseGroup_260 rfl ?_
                  exact h _ _ hF21.put hP21.st hA21.set hwV
              · have hsem : sSemi B n (gp14 B n v s).2.2 = true := by unfold sSemi; rw [← he17 q14, c217, c226]; rfl
                have q13 := (sNum_ok q14).1
                have q12 := (sTake_ok q13).1
                have q11 := (sNum_ok q12).1
                have q10 := (sTake_ok q11).1
                have q9 := (sNum_ok q10).1
                have q8 := (sTake_ok q9).1
                have q7 := (sNum_ok q8).1
                have q6 := (sTake_ok q7).1
                have q5 := (sNum_ok q6).1
                have q4 := (sTake_ok q5).1
                have q4e := (sErr_ok (by decide)).mp (sNext_ok.mp q4)
                have q3 := ((sErr_ok (by decide)).mp q4e.1).1
                have q2 := sNext_ok.mp (sTake_ok q3).1
                have r2 := he2 q2
                have r5 := hy5 q4e.1
                have r8 := hx8 q6
                have r10 := hx10 q8
                have r12 := hx12 q10
                have r14 := hx14 q12
                have r16 := hx16 q14
                have b8 := (sNum_ok q6).2.2
                have b10 := (sNum_ok q8).2.2
                have b12 := (sNum_ok q10).2.2
                have b14 := (sNum_ok q12).2.2
                have b16 := (sNum_ok q14).2.2
                have eV : vset (vset (vset (vset (vset (vset (vlet v (268 + 23 * v 8 + 17) B (tS B n e2) (tE B n e2)) (268 + 23 * v 8 + 0) x5) (268 + 23 * v 8 + 1) x8) (268 + 23 * v 8 + 2) x10) (268 + 23 * v 8 + 3) x12) (268 + 23 * v 8 + 4) x14) (268 + 23 * v 8 + 5) x16 = vGrp B n v s := by
                  subst r2
                  have e5 : (gpt B n v s).getD 0 = x5 := by
                    cases q : gpt B n v s with
                    | none => have := q4e.2; rw [q] at this; cases this
                    | some t => exact (hz5 q4e.1 t q).symm
                  unfold vGrp
                  rw [e5, r8, r10, r12, r14, r16]
                  rfl
                have hv8 : vGrp B n v s 8 = v 8 := by rw [← eV]; rw [vset_off (by omega), vset_off (by omega), vset_off (by omega), vset_off (by omega), vset_off (by omega), vset_off (by omega), vlet_off (by omega)]
                have hA17v : zRA M17 120 (vGrp B n v s) := eV ▸ hA17
                have hpq : zPq (vGrp B n v s) (v 8) := by
                  have hag : ∀ j, zAc v j → vGrp B n v s j = v j := fun j hj => by
                    unfold zAc at hj
                    rw [← eV]
                    rw [vset_off (by omega), vset_off (by omega), vset_off (by omega), vset_off (by omega), vset_off (by omega), vset_off (by omega), vlet_off (by omega)]
                  refine ⟨hW.ag hag, hv8, hlt, ?_, ?_⟩
                  · show vGrp B n v s (268 + 23 * v 8 + 2) + vGrp B n v s (268 + 23 * v 8 + 3) ≤ 10
                    unfold vGrp
                    rw [vset_off (show 268 + 23 * v 8 + 2 ≠ 268 + 23 * v 8 + 5 by omega), vset_off (show 268 + 23 * v 8 + 2 ≠ 268 + 23 * v 8 + 4 by omega), vset_off (show 268 + 23 * v 8 + 2 ≠ 268 + 23 * v 8 + 3 by omega), vset_at, vset_off (show 268 + 23 * v 8 + 3 ≠ 268 + 23 * v 8 + 5 by omega), vset_off (show 268 + 23 * v 8 + 3 ≠ 268 + 23 * v 8 + 4 by omega), vset_at]
                    have c10 : tN B n (gp7 B n v s).2.2 ≤ 6 := b10.2
                    have c12 : tN B n (gp9 B n v s).2.2 ≤ 4 := b12.2
                    omega
                  · unfold vGrp
                    rw [vset_off (by omega), vset_off (by omega), vset_off (by omega), vset_off (by omega), vset_at]
                    exact b8.2
                refine zj_aload0 (n := 230) rfl dX10_parseGroup_229 ?_
                refine zj_iload1 (n := 231) rfl dX10_parseGroup_230 ?_
                refine zj_callV1 (n := 234) (a' := 0) (b' := 0) rfl dX10_parseGroup_231 zm_X10_360 (by decide) (by decide) rfl (Nat.le_of_ble_eq_true rfl) (Nat.le_of_ble_eq_true rfl) (Nat.le_of_ble_eq_true rfl) (Nat.le_of_ble_eq_true rfl) (jX10_isPlaced (v := vGrp B n v s) hA17v hpq ?_)
                intro M18 u18 b18 hg18 hA18 hb18 hbs hu18
                refine zj_ifB_ne (n := 237) (tgt := 242) rfl dX10_parseGroup_234 (by decide) (fun c234 => ?_) (fun c234 => ?_)
                · obtain ⟨p9, hp9⟩ := hb18 c234
                  refine zj_gen (P := fun M20 => ∃ w, zHf M M20 ∧ zPm M20 n B (gp15 B n v s) ∧ zRA M20 120 w ∧ w 8 = v 8 ∧ ((sEnd B n (gp15 B n v s)).1 = 0 → vset w 8 (v 8 + 1) = vGrpF B n v s)) ⟨_, (hg18.hf hF17), (by rw [g15y hsem (by rw [hp9]; rfl)]; exact hg18.pm hP17), hA18, (by rw [hu18 8 (by omega)]; exact hv8), (fun _ => by unfold vGrpF; rw [hp9])⟩ ?_
                  intro M20 h20
                  obtain ⟨w, hF21, hP21, hA21, hw8, hwV⟩ := h20
                  refine zj_aload0 (n := 243) rfl dX10_parseGroup_242 ?_
                  refine zj_callV0 (n := 246) (a' := 0) (b' := 0) rfl dX10_parseGroup_243 zm_X10_226 (by decide) (by decide) rfl (Nat.le_of_ble_eq_true rfl) (Nat.le_of_ble_eq_true rfl) (Nat.le_of_ble_eq_true rfl) (Nat.le_of_ble_eq_true rfl) (jX10_good hP21 ?_)
                  refine zj_ifB_eq (n := 249) (tgt := 260) rfl dX10_parseGroup_246 (by decide) (fun c246 => ?_) (fun c246 => ?_)
                  · exact zj_return dX10_parseGroup_260 rfl (h M20 w hF21 hP21 hA21 (fun q => absurd (sEndOk q).1 (of_decide_eq_false c246)))
                  · refine zj_aload0 (n := 250) rfl dX10_parseGroup_249 ?_
                    refine zj_getr (n := 253) (q := 120) rfl dX10_parseGroup_250 zf_X10_24 rfl (by decide) (by decide) hA21.now ?_
                    refine zj_bipushN (v := 8) (n := 255) rfl dX10_parseGroup_253 (by decide) ?_
                    refine zj_dup2 (n := 256) rfl dX10_parseGroup_255 ?_
                    refine zj_ialoadN (e := v 8) (n := 257) rfl dX10_parseGroup_256 (by decide) rfl (by rw [show zLen 120 = 698 from rfl]; omega) (by rw [hA21.2.2 8 (by decide), hw8]) ?_
                    refine zj_iconstN_1 (n := 258) rfl dX10_parseGroup_257 ?_
                    refine zj_iaddN (n := 259) rfl dX10_parseGroup_258 ?_
                    refine zj_iastoreN (n := 260) rfl dX10_parseGroup_259 (by decide) rfl (by rw [show zLen 120 = 698 from rfl]; omega) ?_
                    refine zj_return dX10_parseGroup_260 rfl ?_
                    exact h _ _ hF21.put hP21.st hA21.set hwV
                · refine zj_aload0 (n := 238) rfl dX10_parseGroup_237 ?_
                  refine zj_iconstN_5 (n := 239) rfl dX10_parseGroup_238 ?_
                  refine zj_callV1 (n := 242) (a' := 0) (b' := 0) rfl dX10_parseGroup_239 zm_X10_317 (by decide) (by decide) rfl (Nat.le_of_ble_eq_true rfl) (Nat.le_of_ble_eq_true rfl) (Nat.le_of_ble_eq_true rfl) (Nat.le_of_ble_eq_true rfl) (jX10_errs (hg18.pm hP17) (by decide) ?_)
                  intro M19 hG19 hP19
                  refine zj_gen (P := fun M20 => ∃ w, zHf M M20 ∧ zPm M20 n B (gp15 B n v s) ∧ zRA M20 120 w ∧ w 8 = v 8 ∧ ((sEnd B n (gp15 B n v s)).1 = 0 → vset w 8 (v 8 + 1) = vGrpF B n v s)) ⟨_, ((hg18.hf hF17).tr (zHf.of2 hG19)), (by rw [g15f hsem (by rw [c234] at hbs; cases hz : plS (vGrp B n v s) (v 8) (vsh (vGrp B n v s) (v 8)); rfl; rw [hz] at hbs; cases hbs)]; exact hP19), (hA18.gf hG19), (by rw [hu18 8 (by omega)]; exact hv8), (fun q => absurd (sEndOk q).1 (by rw [g15f hsem (by rw [c234] at hbs; cases hz : plS (vGrp B n v s) (v 8) (vsh (vGrp B n v s) (v 8)); rfl; rw [hz] at hbs; cases hbs), sRef_e q14]; simp))⟩ ?_
                  intro M20 h20
                  obtain ⟨w, hF21, hP21, hA21, hw8, hwV⟩ := h20
                  refine zj_aload0 (n := 243) rfl dX10_parseGroup_242 ?_
                  refine zj_callV0 (n := 246) (a' := 0) (b' := 0) rfl dX10_parseGroup_243 zm_X10_226 (by decide) (by decide) rfl (Nat.le_of_ble_eq_true rfl) (Nat.le_of_ble_eq_true rfl) (Nat.le_of_ble_eq_true rfl) (Nat.le_of_ble_eq_true rfl) (jX10_good hP21 ?_)
                  refine zj_ifB_eq (n := 249) (tgt := 260) rfl dX10_parseGroup_246 (by decide) (fun c246 => ?_) (fun c246 => ?_)
                  · exact zj_return dX10_parseGroup_260 rfl (h M20 w hF21 hP21 hA21 (fun q => absurd (sEndOk q).1 (of_decide_eq_false c246)))
                  · refine zj_aload0 (n := 250) rfl dX10_parseGroup_249 ?_
                    refine zj_getr (n := 253) (q := 120) rfl dX10_parseGroup_250 zf_X10_24 rfl (by decide) (by decide) hA21.now ?_
                    refine zj_bipushN (v := 8) (n := 255) rfl dX10_parseGroup_253 (by decide) ?_
                    refine zj_dup2 (n := 256) rfl dX10_parseGroup_255 ?_
                    refine zj_ialoadN (e := v 8) (n := 257) rfl dX10_parseGroup_256 (by decide) rfl (by rw [show zLen 120 = 698 from rfl]; omega) (by rw [hA21.2.2 8 (by decide), hw8]) ?_
                    refine zj_iconstN_1 (n := 258) rfl dX10_parseGroup_257 ?_
                    refine zj_iaddN (n := 259) rfl dX10_parseGroup_258 ?_
                    refine zj_iastoreN (n := 260) rfl dX10_parseGroup_259 (by decide) rfl (by rw [show zLen 120 = 698 from rfl]; omega) ?_
                    refine zj_return dX10_parseGroup_260 rfl ?_
                    exact h _ _ hF21.put hP21.st hA21.set hwV
        · refine zj_aload0 (n := 94) rfl dX10_parseGroup_93 ?_
          refine zj_getr (n := 97) (q := 120) rfl dX10_parseGroup_94 zf_X10_24 rfl (by decide) (by decide) hA5.now ?_
          refine zj_iload2 (n := 98) rfl dX10_parseGroup_97 ?_
          refine zj_iconstN_0 (n := 99) rfl dX10_parseGroup_98 ?_
          refine zj_iaddN (n := 100) rfl dX10_parseGroup_99 ?_
          refine zj_ialoadN (e := x5) (n := 101) rfl dX10_parseGroup_100 (by decide) rfl (by rw [show zLen 120 = 698 from rfl]; omega) (by rw [hA5.2.2 _ (by omega), vset_at]) ?_
          rw [hy5 (of_decide_eq_true c90)]
          refine zj_iconst_m1 (n := 102) rfl dX10_parseGroup_101 ?_
          refine zj_icmpO_ne (n := 105) (tgt := 110) rfl dX10_parseGroup_102 (by decide) (fun m hm => by have := kfind_lt hW (by decide) hm; omega) (fun m102 c102 => ?_) (fun c102 => ?_)
          · refine zj_gen (P := fun M6 => zHf M M6 ∧ zPm M6 n B (gp4e B n v s) ∧ zRA M6 120 (vset (vlet v (268 + 23 * v 8 + 17) B (tS B n e2) (tE B n e2)) (268 + 23 * v 8 + 0) x5)) ⟨hF5, (by unfold gp4e; rw [c102, sErr_eq (show (some m102).isNone = false from rfl)]; exact hP5), hA5⟩ ?_
            intro M6 h6
            obtain ⟨hF6, hP6, hA6⟩ := h6
            refine zj_aload0 (n := 111) rfl dX10_parseGroup_110 ?_
            refine zj_callV0 (n := 114) (a' := 0) (b' := 0) rfl dX10_parseGroup_111 zm_X10_320 (by decide) (by decide) rfl (Nat.le_of_ble_eq_true rfl) (Nat.le_of_ble_eq_true rfl) (Nat.le_of_ble_eq_true rfl) (Nat.le_of_ble_eq_true rfl) (jX10_goOn hP6 ?_)
            intro M7 hG7 hP7
            have hF7 : zHf M M7 := hF6.tr (zHf.of hG7)
            have hA7 := hA6.gf hG7
            change zPm M7 n B (gp4 B n v s) at hP7
            refine zj_aload0 (n := 115) rfl dX10_parseGroup_114 ?_
            refine zj_getr (n := 118) (q := 120) rfl dX10_parseGroup_115 zf_X10_24 rfl (by decide) (by decide) hA7.now ?_
            refine zj_iload2 (n := 119) rfl dX10_parseGroup_118 ?_
            refine zj_iconstN_1 (n := 120) rfl dX10_parseGroup_119 ?_
            refine zj_iaddN (n := 121) rfl dX10_parseGroup_120 ?_
            refine zj_aload0 (n := 122) rfl dX10_parseGroup_121 ?_
            refine zj_ldcwS (i := 18) (n := 125) rfl dX10_parseGroup_122 rfl (by decide) rfl ?_
            refine zj_iconstN_0 (n := 126) rfl dX10_parseGroup_125 ?_
            refine zj_sipushN (v := 9999) (n := 129) rfl dX10_parseGroup_126 (by decide) ?_
            refine zj_callV3 (n := 132) (a' := 0) (b' := 0) rfl dX10_parseGroup_129 zm_X10_355 (by decide) (by decide) rfl (Nat.le_of_ble_eq_true rfl) (Nat.le_of_ble_eq_true rfl) (Nat.le_of_ble_eq_true rfl) (Nat.le_of_ble_eq_true rfl) (jX10_numberAfter hP7 (by decide) (by decide) (by decide) ?_)
            intro M8 x8 hx8b hG8 hP8 hx8
            have hF8 : zHf M M8 := hF7.tr (zHf.of hG8)
            have hA8 := hA7.gf hG8
            change zPm M8 n B (gp6 B n v s) at hP8
            refine zj_iastoreN (n := 133) rfl dX10_parseGroup_132 (by decide) rfl (by rw [show zLen 120 = 698 from rfl]; omega) ?_
            refine zj_gen (P := fun M9 => zHf M M9 ∧ zPm M9 n B (gp6 B n v s) ∧ zRA M9 120 (vset (vset (vlet v (268 + 23 * v 8 + 17) B (tS B n e2) (tE B n e2)) (268 + 23 * v 8 + 0) x5) (268 + 23 * v 8 + 1) x8)) ⟨hF8.put, hP8.st, hA8.set⟩ ?_
            intro M9 h9
            obtain ⟨hF9, hP9, hA9⟩ := h9
            refine zj_aload0 (n := 134) rfl dX10_parseGroup_133 ?_
            refine zj_getr (n := 137) (q := 120) rfl dX10_parseGroup_134 zf_X10_24 rfl (by decide) (by decide) hA9.now ?_
            refine zj_iload2 (n := 138) rfl dX10_parseGroup_137 ?_
            refine zj_iconstN_2 (n := 139) rfl dX10_parseGroup_138 ?_
            refine zj_iaddN (n := 140) rfl dX10_parseGroup_139 ?_
            refine zj_aload0 (n := 141) rfl dX10_parseGroup_140 ?_
            refine zj_ldcwS (i := 19) (n := 144) rfl dX10_parseGroup_141 rfl (by decide) rfl ?_
            refine zj_iconstN_1 (n := 145) rfl dX10_parseGroup_144 ?_
            refine zj_bipushN (v := 6) (n := 147) rfl dX10_parseGroup_145 (by decide) ?_
            refine zj_callV3 (n := 150) (a' := 0) (b' := 0) rfl dX10_parseGroup_147 zm_X10_355 (by decide) (by decide) rfl (Nat.le_of_ble_eq_true rfl) (Nat.le_of_ble_eq_true rfl) (Nat.le_of_ble_eq_true rfl) (Nat.le_of_ble_eq_true rfl) (jX10_numberAfter hP9 (by decide) (by decide) (by decide) ?_)
            intro M10 x10 hx10b hG10 hP10 hx10
            have hF10 : zHf M M10 := hF9.tr (zHf.of hG10)
            have hA10 := hA9.gf hG10
            change zPm M10 n B (gp8 B n v s) at hP10
            refine zj_iastoreN (n := 151) rfl dX10_parseGroup_150 (by decide) rfl (by rw [show zLen 120 = 698 from rfl]; omega) ?_
            refine zj_gen (P := fun M11 => zHf M M11 ∧ zPm M11 n B (gp8 B n v s) ∧ zRA M11 120 (vset (vset (vset (vlet v (268 + 23 * v 8 + 17) B (tS B n e2) (tE B n e2)) (268 + 23 * v 8 + 0) x5) (268 + 23 * v 8 + 1) x8) (268 + 23 * v 8 + 2) x10)) ⟨hF10.put, hP10.st, hA10.set⟩ ?_
            intro M11 h11
            obtain ⟨hF11, hP11, hA11⟩ := h11
            refine zj_aload0 (n := 152) rfl dX10_parseGroup_151 ?_
            refine zj_getr (n := 155) (q := 120) rfl dX10_parseGroup_152 zf_X10_24 rfl (by decide) (by decide) hA11.now ?_
            refine zj_iload2 (n := 156) rfl dX10_parseGroup_155 ?_
            refine zj_iconstN_3 (n := 157) rfl dX10_parseGroup_156 ?_
            refine zj_iaddN (n := 158) rfl dX10_parseGroup_157 ?_
            refine zj_aload0 (n := 159) rfl dX10_parseGroup_158 ?_
            refine zj_ldcwS (i := 20) (n := 162) rfl dX10_parseGroup_159 rfl (by decide) rfl ?_
            refine zj_iconstN_1 (n := 163) rfl dX10_parseGroup_162 ?_
            refine zj_iconstN_4 (n := 164) rfl dX10_parseGroup_163 ?_
            refine zj_callV3 (n := 167) (a' := 0) (b' := 0) rfl dX10_parseGroup_164 zm_X10_355 (by decide) (by decide) rfl (Nat.le_of_ble_eq_true rfl) (Nat.le_of_ble_eq_true rfl) (Nat.le_of_ble_eq_true rfl) (Nat.le_of_ble_eq_true rfl) (jX10_numberAfter hP11 (by decide) (by decide) (by decide) ?_)
            intro M12 x12 hx12b hG12 hP12 hx12
            have hF12 : zHf M M12 := hF11.tr (zHf.of hG12)
            have hA12 := hA11.gf hG12
            change zPm M12 n B (gp10 B n v s) at hP12
            refine zj_iastoreN (n := 168) rfl dX10_parseGroup_167 (by decide) rfl (by rw [show zLen 120 = 698 from rfl]; omega) ?_
            refine zj_gen (P := fun M13 => zHf M M13 ∧ zPm M13 n B (gp10 B n v s) ∧ zRA M13 120 (vset (vset (vset (vset (vlet v (268 + 23 * v 8 + 17) B (tS B n e2) (tE B n e2)) (268 + 23 * v 8 + 0) x5) (268 + 23 * v 8 + 1) x8) (268 + 23 * v 8 + 2) x10) (268 + 23 * v 8 + 3) x12)) ⟨hF12.put, hP12.st, hA12.set⟩ ?_
            intro M13 h13
            obtain ⟨hF13, hP13, hA13⟩ := h13
            refine zj_aload0 (n := 169) rfl dX10_parseGroup_168 ?_
            refine zj_getr (n := 172) (q := 120) rfl dX10_parseGroup_169 zf_X10_24 rfl (by decide) (by decide) hA13.now ?_
            refine zj_iload2 (n := 173) rfl dX10_parseGroup_172 ?_
            refine zj_iconstN_4 (n := 174) rfl dX10_parseGroup_173 ?_
            refine zj_iaddN (n := 175) rfl dX10_parseGroup_174 ?_
            refine zj_aload0 (n := 176) rfl dX10_parseGroup_175 ?_
            refine zj_ldcwS (i := 21) (n := 179) rfl dX10_parseGroup_176 rfl (by decide) rfl ?_
            refine zj_iconstN_1 (n := 180) rfl dX10_parseGroup_179 ?_
            refine zj_bipushN (v := 100) (n := 182) rfl dX10_parseGroup_180 (by decide) ?_
            refine zj_callV3 (n := 185) (a' := 0) (b' := 0) rfl dX10_parseGroup_182 zm_X10_355 (by decide) (by decide) rfl (Nat.le_of_ble_eq_true rfl) (Nat.le_of_ble_eq_true rfl) (Nat.le_of_ble_eq_true rfl) (Nat.le_of_ble_eq_true rfl) (jX10_numberAfter hP13 (by decide) (by decide) (by decide) ?_)
            intro M14 x14 hx14b hG14 hP14 hx14
            have hF14 : zHf M M14 := hF13.tr (zHf.of hG14)
            have hA14 := hA13.gf hG14
            change zPm M14 n B (gp12 B n v s) at hP14
            refine zj_iastoreN (n := 186) rfl dX10_parseGroup_185 (by decide) rfl (by rw [show zLen 120 = 698 from rfl]; omega) ?_
            refine zj_gen (P := fun M15 => zHf M M15 ∧ zPm M15 n B (gp12 B n v s) ∧ zRA M15 120 (vset (vset (vset (vset (vset (vlet v (268 + 23 * v 8 + 17) B (tS B n e2) (tE B n e2)) (268 + 23 * v 8 + 0) x5) (268 + 23 * v 8 + 1) x8) (268 + 23 * v 8 + 2) x10) (268 + 23 * v 8 + 3) x12) (268 + 23 * v 8 + 4) x14)) ⟨hF14.put, hP14.st, hA14.set⟩ ?_
            intro M15 h15
            obtain ⟨hF15, hP15, hA15⟩ := h15
            refine zj_aload0 (n := 187) rfl dX10_parseGroup_186 ?_
            refine zj_getr (n := 190) (q := 120) rfl dX10_parseGroup_187 zf_X10_24 rfl (by decide) (by decide) hA15.now ?_
            refine zj_iload2 (n := 191) rfl dX10_parseGroup_190 ?_
            refine zj_iconstN_5 (n := 192) rfl dX10_parseGroup_191 ?_
            refine zj_iaddN (n := 193) rfl dX10_parseGroup_192 ?_
            refine zj_aload0 (n := 194) rfl dX10_parseGroup_193 ?_
            refine zj_ldcwS (i := 22) (n := 197) rfl dX10_parseGroup_194 rfl (by decide) rfl ?_
            refine zj_iconstN_1 (n := 198) rfl dX10_parseGroup_197 ?_
            refine zj_sipushN (v := 9999) (n := 201) rfl dX10_parseGroup_198 (by decide) ?_
            refine zj_callV3 (n := 204) (a' := 0) (b' := 0) rfl dX10_parseGroup_201 zm_X10_355 (by decide) (by decide) rfl (Nat.le_of_ble_eq_true rfl) (Nat.le_of_ble_eq_true rfl) (Nat.le_of_ble_eq_true rfl) (Nat.le_of_ble_eq_true rfl) (jX10_numberAfter hP15 (by decide) (by decide) (by decide) ?_)
            intro M16 x16 hx16b hG16 hP16 hx16
            have hF16 : zHf M M16 := hF15.tr (zHf.of hG16)
            have hA16 := hA15.gf hG16
            change zPm M16 n B (gp14 B n v s) at hP16
            refine zj_iastoreN (n := 205) rfl dX10_parseGroup_204 (by decide) rfl (by rw [show zLen 120 = 698 from rfl]; omega) ?_
            refine zj_gen (P := fun M17 => zHf M M17 ∧ zPm M17 n B (gp14 B n v s) ∧ zRA M17 120 (vset (vset (vset (vset (vset (vset (vlet v (268 + 23 * v 8 + 17) B (tS B n e2) (tE B n e2)) (268 + 23 * v 8 + 0) x5) (268 + 23 * v 8 + 1) x8) (268 + 23 * v 8 + 2) x10) (268 + 23 * v 8 + 3) x12) (268 + 23 * v 8 + 4) x14) (268 + 23 * v 8 + 5) x16)) ⟨hF16.put, hP16.st, hA16.set⟩ ?_
            intro M17 h17
            obtain ⟨hF17, hP17, hA17⟩ := h17
            obtain ⟨hT17, -, -, -, -, e17, hen17, hK17, he17⟩ := id hP17
            have hts17 := tS_le (B := B) hen17
            have hk17 : tK B n e17 ≤ 3 := sK_le
            refine zj_aload0 (n := 206) rfl dX10_parseGroup_205 ?_
            refine zj_callV0 (n := 209) (a' := 0) (b' := 0) rfl dX10_parseGroup_206 zm_X10_226 (by decide) (by decide) rfl (Nat.le_of_ble_eq_true rfl) (Nat.le_of_ble_eq_true rfl) (Nat.le_of_ble_eq_true rfl) (Nat.le_of_ble_eq_true rfl) (jX10_good hP17 ?_)
            refine zj_ifB_eq (n := 212) (tgt := 242) rfl dX10_parseGroup_209 (by decide) (fun c209 => ?_) (fun c209 => ?_)
            · refine zj_gen (P := fun M20 => ∃ w, zHf M M20 ∧ zPm M20 n B (gp15 B n v s) ∧ zRA M20 120 w ∧ w 8 = v 8 ∧ ((sEnd B n (gp15 B n v s)).1 = 0 → vset w 8 (v 8 + 1) = vGrpF B n v s)) ⟨_, hF17, (by rw [g15n (of_decide_eq_false c209)]; exact hP17), hA17, (by rw [vset_off (by omega), vset_off (by omega), vset_off (by omega), vset_off (by omega), vset_off (by omega), vset_off (by omega), vlet_off (by omega)]), (fun q => absurd (sEndOk q).1 (by rw [g15n (of_decide_eq_false c209)]; exact of_decide_eq_false c209))⟩ ?_
              intro M20 h20
              obtain ⟨w, hF21, hP21, hA21, hw8, hwV⟩ := h20
              refine zj_aload0 (n := 243) rfl dX10_parseGroup_242 ?_
              refine zj_callV0 (n := 246) (a' := 0) (b' := 0) rfl dX10_parseGroup_243 zm_X10_226 (by decide) (by decide) rfl (Nat.le_of_ble_eq_true rfl) (Nat.le_of_ble_eq_true rfl) (Nat.le_of_ble_eq_true rfl) (Nat.le_of_ble_eq_true rfl) (jX10_good hP21 ?_)
              refine zj_ifB_eq (n := 249) (tgt := 260) rfl dX10_parseGroup_246 (by decide) (fun c246 => ?_) (fun c246 => ?_)
              · exact zj_return dX10_parseGroup_260 rfl (h M20 w hF21 hP21 hA21 (fun q => absurd (sEndOk q).1 (of_decide_eq_false c246)))
              · refine zj_aload0 (n := 250) rfl dX10_parseGroup_249 ?_
                refine zj_getr (n := 253) (q := 120) rfl dX10_parseGroup_250 zf_X10_24 rfl (by decide) (by decide) hA21.now ?_
                refine zj_bipushN (v := 8) (n := 255) rfl dX10_parseGroup_253 (by decide) ?_
                refine zj_dup2 (n := 256) rfl dX10_parseGroup_255 ?_
                refine zj_ialoadN (e := v 8) (n := 257) rfl dX10_parseGroup_256 (by decide) rfl (by rw [show zLen 120 = 698 from rfl]; omega) (by rw [hA21.2.2 8 (by decide), hw8]) ?_
                refine zj_iconstN_1 (n := 258) rfl dX10_parseGroup_257 ?_
                refine zj_iaddN (n := 259) rfl dX10_parseGroup_258 ?_
                refine zj_iastoreN (n := 260) rfl dX10_parseGroup_259 (by decide) rfl (by rw [show zLen 120 = 698 from rfl]; omega) ?_
                refine zj_return dX10_parseGroup_260 rfl ?_
                exact h _ _ hF21.put hP21.st hA21.set hwV
            · have q14 := of_decide_eq_true c209
              refine zj_aload0 (n := 213) rfl dX10_parseGroup_212 ?_
              refine zj_getiN (e := tK B n e17) (n := 216) rfl dX10_parseGroup_213 zf_X10_242 rfl (by decide) (by decide) hK17.1 ?_
              refine zj_iconstN_3 (n := 217) rfl dX10_parseGroup_216 ?_
              refine zj_icmpN_ne (n := 220) (tgt := 242) rfl dX10_parseGroup_217 (by decide) (by omega) (by omega) (fun c217 => ?_) (fun c217 => ?_)
              · refine zj_gen (P := fun M20 => ∃ w, zHf M M20 ∧ zPm M20 n B (gp15 B n v s) ∧ zRA M20 120 w ∧ w 8 = v 8 ∧ ((sEnd B n (gp15 B n v s)).1 = 0 → vset w 8 (v 8 + 1) = vGrpF B n v s)) ⟨_, hF17, (by rw [g15s (by unfold sSemi; rw [← he17 q14, beq_false_of_ne c217]; rfl)]; exact hP17), hA17, (by rw [vset_off (by omega), vset_off (by omega), vset_off (by omega), vset_off (by omega), vset_off (by omega), vset_off (by omega), vlet_off (by omega)]), (fun q => absurd (sEndOk q).2 (by rw [g15s (by unfold sSemi; rw [← he17 q14, beq_false_of_ne c217]; rfl)]; unfold sSemi; rw [← he17 q14, beq_false_of_ne c217]; simp))⟩ ?_
                intro M20 h20
                obtain ⟨w, hF21, hP21, hA21, hw8, hwV⟩ := h20
                refine zj_aload0 (n := 243) rfl dX10_parseGroup_242 ?_
                refine zj_callV0 (n := 246) (a' := 0) (b' := 0) rfl dX10_parseGroup_243 zm_X10_226 (by decide) (by decide) rfl (Nat.le_of_ble_eq_true rfl) (Nat.le_of_ble_eq_true rfl) (Nat.le_of_ble_eq_true rfl) (Nat.le_of_ble_eq_true rfl) (jX10_good hP21 ?_)
                refine zj_ifB_eq (n := 249) (tgt := 260) rfl dX10_parseGroup_246 (by decide) (fun c246 => ?_) (fun c246 => ?_)
                · exact zj_return dX10_parseGroup_260 rfl (h M20 w hF21 hP21 hA21 (fun q => absurd (sEndOk q).1 (of_decide_eq_false c246)))
                · refine zj_aload0 (n := 250) rfl dX10_parseGroup_249 ?_
                  refine zj_getr (n := 253) (q := 120) rfl dX10_parseGroup_250 zf_X10_24 rfl (by decide) (by decide) hA21.now ?_
                  refine zj_bipushN (v := 8) (n := 255) rfl dX10_parseGroup_253 (by decide) ?_
                  refine zj_dup2 (n := 256) rfl dX10_parseGroup_255 ?_
                  refine zj_ialoadN (e := v 8) (n := 257) rfl dX10_parseGroup_256 (by decide) rfl (by rw [show zLen 120 = 698 from rfl]; omega) (by rw [hA21.2.2 8 (by decide), hw8]) ?_
                  refine zj_iconstN_1 (n := 258) rfl dX10_parseGroup_257 ?_
                  refine zj_iaddN (n := 259) rfl dX10_parseGroup_258 ?_
                  refine zj_iastoreN (n := 260) rfl dX10_parseGroup_259 (by decide) rfl (by rw [show zLen 120 = 698 from rfl]; omega) ?_
                  refine zj_return dX10_parseGroup_260 rfl ?_
                  exact h _ _ hF21.put hP21.st hA21.set hwV
              · refine zj_aload0 (n := 221) rfl dX10_parseGroup_220 ?_
                refine zj_getiN (e := B (tS B n e17)) (n := 224) rfl dX10_parseGroup_221 zf_X10_253 rfl (by decide) (by decide) (hK17.2.2.2.2 c217) ?_
                have hsn17 : tS B n e17 < n := by
                  by_cases w : tS B n e17 < n
                  · exact w
                  · rw [show tK B n e17 = 0 from sK_0.mpr w] at c217; cases c217
                have hb17 := (hT17.2.2 _ hsn17).1
                refine zj_bipushN (v := 59) (n := 226) rfl dX10_parseGroup_224 (by decide) ?_
                refine zj_icmpN_ne (n := 229) (tgt := 242) rfl dX10_parseGroup_226 (by decide) (by omega) (by omega) (fun c226 => ?_) (fun c226 => ?_)
                · refine zj_gen (P := fun M20 => ∃ w, zHf M M20 ∧ zPm M20 n B (gp15 B n v s) ∧ zRA M20 120 w ∧ w 8 = v 8 ∧ ((sEnd B n (gp15 B n v s)).1 = 0 → vset w 8 (v 8 + 1) = vGrpF B n v s)) ⟨_, hF17, (by rw [g15s (by unfold sSemi; rw [← he17 q14, beq_false_of_ne c226, Bool.and_false])]; exact hP17), hA17, (by rw [vset_off (by omega), vset_off (by omega), vset_off (by omega), vset_off (by omega), vset_off (by omega), vset_off (by omega), vlet_off (by omega)]), (fun q => absurd (sEndOk q).2 (by rw [g15s (by unfold sSemi; rw [← he17 q14, beq_false_of_ne c226, Bool.and_false])]; unfold sSemi; rw [← he17 q14, beq_false_of_ne c226]; simp))⟩ ?_
                  intro M20 h20
                  obtain ⟨w, hF21, hP21, hA21, hw8, hwV⟩ := h20
                  refine zj_aload0 (n := 243) rfl dX10_parseGroup_242 ?_
                  refine zj_callV0 (n := 246) (a' := 0) (b' := 0) rfl dX10_parseGroup_243 zm_X10_226 (by decide) (by decide) rfl (Nat.le_of_ble_eq_true rfl) (Nat.le_of_ble_eq_true rfl) (Nat.le_of_ble_eq_true rfl) (Nat.le_of_ble_eq_true rfl) (jX10_good hP21 ?_)
                  refine zj_ifB_eq (n := 249) (tgt := 260) rfl dX10_parseGroup_246 (by decide) (fun c246 => ?_) (fun c246 => ?_)
                  · exact zj_return dX10_parseGroup_260 rfl (h M20 w hF21 hP21 hA21 (fun q => absurd (sEndOk q).1 (of_decide_eq_false c246)))
                  · refine zj_aload0 (n := 250) rfl dX10_parseGroup_249 ?_
                    refine zj_getr (n := 253) (q := 120) rfl dX10_parseGroup_250 zf_X10_24 rfl (by decide) (by decide) hA21.now ?_
                    refine zj_bipushN (v := 8) (n := 255) rfl dX10_parseGroup_253 (by decide) ?_
                    refine zj_dup2 (n := 256) rfl dX10_parseGroup_255 ?_
                    refine zj_ialoadN (e := v 8) (n := 257) rfl dX10_parseGroup_256 (by decide) rfl (by rw [show zLen 120 = 698 from rfl]; omega) (by rw [hA21.2.2 8 (by decide), hw8]) ?_
                    refine zj_iconstN_1 (n := 258) rfl dX10_parseGroup_257 ?_
                    refine zj_iaddN (n := 259) rfl dX10_parseGroup_258 ?_
                    refine zj_iastoreN (n := 260) rfl dX10_parseGroup_259 (by decide) rfl (by rw [show zLen 120 = 698 from rfl]; omega) ?_
                    refine zj_return dX10_parseGroup_260 rfl ?_
                    exact h _ _ hF21.put hP21.st hA21.set hwV
                · have hsem : sSemi B n (gp14 B n v s).2.2 = true := by unfold sSemi; rw [← he17 q14, c217, c226]; rfl
                  have q13 := (sNum_ok q14).1
                  have q12 := (sTake_ok q13).1
                  have q11 := (sNum_ok q12).1
                  have q10 := (sTake_ok q11).1
                  have q9 := (sNum_ok q10).1
                  have q8 := (sTake_ok q9).1
                  have q7 := (sNum_ok q8).1
                  have q6 := (sTake_ok q7).1
                  have q5 := (sNum_ok q6).1
                  have q4 := (sTake_ok q5).1
                  have q4e := (sErr_ok (by decide)).mp (sNext_ok.mp q4)
                  have q3 := ((sErr_ok (by decide)).mp q4e.1).1
                  have q2 := sNext_ok.mp (sTake_ok q3).1
                  have r2 := he2 q2
                  have r5 := hy5 q4e.1
                  have r8 := hx8 q6
                  have r10 := hx10 q8
                  have r12 := hx12 q10
                  have r14 := hx14 q12
                  have r16 := hx16 q14
                  have b8 := (sNum_ok q6).2.2
                  have b10 := (sNum_ok q8).2.2
                  have b12 := (sNum_ok q10).2.2
                  have b14 := (sNum_ok q12).2.2
                  have b16 := (sNum_ok q14).2.2
                  have eV : vset (vset (vset (vset (vset (vset (vlet v (268 + 23 * v 8 + 17) B (tS B n e2) (tE B n e2)) (268 + 23 * v 8 + 0) x5) (268 + 23 * v 8 + 1) x8) (268 + 23 * v 8 + 2) x10) (268 + 23 * v 8 + 3) x12) (268 + 23 * v 8 + 4) x14) (268 + 23 * v 8 + 5) x16 = vGrp B n v s := by
                    subst r2
                    have e5 : (gpt B n v s).getD 0 = x5 := by
                      cases q : gpt B n v s with
                      | none => have := q4e.2; rw [q] at this; cases this
                      | some t => exact (hz5 q4e.1 t q).symm
                    unfold vGrp
                    rw [e5, r8, r10, r12, r14, r16]
                    rfl
                  have hv8 : vGrp B n v s 8 = v 8 := by rw [← eV]; rw [vset_off (by omega), vset_off (by omega), vset_off (by omega), vset_off (by omega), vset_off (by omega), vset_off (by omega), vlet_off (by omega)]
                  have hA17v : zRA M17 120 (vGrp B n v s) := eV ▸ hA17
                  have hpq : zPq (vGrp B n v s) (v 8) := by
                    have hag : ∀ j, zAc v j → vGrp B n v s j = v j := fun j hj => by
                      unfold zAc at hj
                      rw [← eV]
                      rw [vset_off (by omega), vset_off (by omega), vset_off (by omega), vset_off (by omega), vset_off (by omega), vset_off (by omega), vlet_off (by omega)]
                    refine ⟨hW.ag hag, hv8, hlt, ?_, ?_⟩
                    · show vGrp B n v s (268 + 23 * v 8 + 2) + vGrp B n v s (268 + 23 * v 8 + 3) ≤ 10
                      unfold vGrp
                      rw [vset_off (show 268 + 23 * v 8 + 2 ≠ 268 + 23 * v 8 + 5 by omega), vset_off (show 268 + 23 * v 8 + 2 ≠ 268 + 23 * v 8 + 4 by omega), vset_off (show 268 + 23 * v 8 + 2 ≠ 268 + 23 * v 8 + 3 by omega), vset_at, vset_off (show 268 + 23 * v 8 + 3 ≠ 268 + 23 * v 8 + 5 by omega), vset_off (show 268 + 23 * v 8 + 3 ≠ 268 + 23 * v 8 + 4 by omega), vset_at]
                      have c10 : tN B n (gp7 B n v s).2.2 ≤ 6 := b10.2
                      have c12 : tN B n (gp9 B n v s).2.2 ≤ 4 := b12.2
                      omega
                    · unfold vGrp
                      rw [vset_off (by omega), vset_off (by omega), vset_off (by omega), vset_off (by omega), vset_at]
                      exact b8.2
                  refine zj_aload0 (n := 230) rfl dX10_parseGroup_229 ?_
                  refine zj_iload1 (n := 231) rfl dX10_parseGroup_230 ?_
                  refine zj_callV1 (n := 234) (a' := 0) (b' := 0) rfl dX10_parseGroup_231 zm_X10_360 (by decide) (by decide) rfl (Nat.le_of_ble_eq_true rfl) (Nat.le_of_ble_eq_true rfl) (Nat.le_of_ble_eq_true rfl) (Nat.le_of_ble_eq_true rfl) (jX10_isPlaced (v := vGrp B n v s) hA17v hpq ?_)
                  intro M18 u18 b18 hg18 hA18 hb18 hbs hu18
                  refine zj_ifB_ne (n := 237) (tgt := 242) rfl dX10_parseGroup_234 (by decide) (fun c234 => ?_) (fun c234 => ?_)
                  · obtain ⟨p9, hp9⟩ := hb18 c234
                    refine zj_gen (P := fun M20 => ∃ w, zHf M M20 ∧ zPm M20 n B (gp15 B n v s) ∧ zRA M20 120 w ∧ w 8 = v 8 ∧ ((sEnd B n (gp15 B n v s)).1 = 0 → vset w 8 (v 8 + 1) = vGrpF B n v s)) ⟨_, (hg18.hf hF17), (by rw [g15y hsem (by rw [hp9]; rfl)]; exact hg18.pm hP17), hA18, (by rw [hu18 8 (by omega)]; exact hv8), (fun _ => by unfold vGrpF; rw [hp9])⟩ ?_
                    intro M20 h20
                    obtain ⟨w, hF21, hP21, hA21, hw8, hwV⟩ := h20
                    refine zj_aload0 (n := 243) rfl dX10_parseGroup_242 ?_
                    refine zj_callV0 (n := 246) (a' := 0) (b' := 0) rfl dX10_parseGroup_243 zm_X10_226 (by decide) (by decide) rfl (Nat.le_of_ble_eq_true rfl) (Nat.le_of_ble_eq_true rfl) (Nat.le_of_ble_eq_true rfl) (Nat.le_of_ble_eq_true rfl) (jX10_good hP21 ?_)
                    refine zj_ifB_eq (n := 249) (tgt := 260) rfl dX10_parseGroup_246 (by decide) (fun c246 => ?_) (fun c246 => ?_)
                    · exact zj_return dX10_parseGroup_260 rfl (h M20 w hF21 hP21 hA21 (fun q => absurd (sEndOk q).1 (of_decide_eq_false c246)))
                    · refine zj_aload0 (n := 250) rfl dX10_parseGroup_249 ?_
                      refine zj_getr (n := 253) (q := 120) rfl dX10_parseGroup_250 zf_X10_24 rfl (by decide) (by decide) hA21.now ?_
                      refine zj_bipushN (v := 8) (n := 255) rfl dX10_parseGroup_253 (by decide) ?_
                      refine zj_dup2 (n := 256) rfl dX10_parseGroup_255 ?_
                      refine zj_ialoadN (e := v 8) (n := 257) rfl dX10_parseGroup_256 (by decide) rfl (by rw [show zLen 120 = 698 from rfl]; omega) (by rw [hA21.2.2 8 (by decide), hw8]) ?_
                      refine zj_iconstN_1 (n := 258) rfl dX10_parseGroup_257 ?_
                      refine zj_iaddN (n := 259) rfl dX10_parseGroup_258 ?_
                      refine zj_iastoreN (n := 260) rfl dX10_parseGroup_259 (by decide) rfl (by rw [show zLen 120 = 698 from rfl]; omega) ?_
                      refine zj_return dX10_parseGroup_260 rfl ?_
                      exact h _ _ hF21.put hP21.st hA21.set hwV
                  · refine zj_aload0 (n := 238) rfl dX10_parseGroup_237 ?_
                    refine zj_iconstN_5 (n := 239) rfl dX10_parseGroup_238 ?_
                    refine zj_callV1 (n := 242) (a' := 0) (b' := 0) rfl dX10_parseGroup_239 zm_X10_317 (by decide) (by decide) rfl (Nat.le_of_ble_eq_true rfl) (Nat.le_of_ble_eq_true rfl) (Nat.le_of_ble_eq_true rfl) (Nat.le_of_ble_eq_true rfl) (jX10_errs (hg18.pm hP17) (by decide) ?_)
                    intro M19 hG19 hP19
                    refine zj_gen (P := fun M20 => ∃ w, zHf M M20 ∧ zPm M20 n B (gp15 B n v s) ∧ zRA M20 120 w ∧ w 8 = v 8 ∧ ((sEnd B n (gp15 B n v s)).1 = 0 → vset w 8 (v 8 + 1) = vGrpF B n v s)) ⟨_, ((hg18.hf hF17).tr (zHf.of2 hG19)), (by rw [g15f hsem (by rw [c234] at hbs; cases hz : plS (vGrp B n v s) (v 8) (vsh (vGrp B n v s) (v 8)); rfl; rw [hz] at hbs; cases hbs)]; exact hP19), (hA18.gf hG19), (by rw [hu18 8 (by omega)]; exact hv8), (fun q => absurd (sEndOk q).1 (by rw [g15f hsem (by rw [c234] at hbs; cases hz : plS (vGrp B n v s) (v 8) (vsh (vGrp B n v s) (v 8)); rfl; rw [hz] at hbs; cases hbs), sRef_e q14]; simp))⟩ ?_
                    intro M20 h20
                    obtain ⟨w, hF21, hP21, hA21, hw8, hwV⟩ := h20
                    refine zj_aload0 (n := 243) rfl dX10_parseGroup_242 ?_
                    refine zj_callV0 (n := 246) (a' := 0) (b' := 0) rfl dX10_parseGroup_243 zm_X10_226 (by decide) (by decide) rfl (Nat.le_of_ble_eq_true rfl) (Nat.le_of_ble_eq_true rfl) (Nat.le_of_ble_eq_true rfl) (Nat.le_of_ble_eq_true rfl) (jX10_good hP21 ?_)
                    refine zj_ifB_eq (n := 249) (tgt := 260) rfl dX10_parseGroup_246 (by decide) (fun c246 => ?_) (fun c246 => ?_)
                    · exact zj_return dX10_parseGroup_260 rfl (h M20 w hF21 hP21 hA21 (fun q => absurd (sEndOk q).1 (of_decide_eq_false c246)))
                    · refine zj_aload0 (n := 250) rfl dX10_parseGroup_249 ?_
                      refine zj_getr (n := 253) (q := 120) rfl dX10_parseGroup_250 zf_X10_24 rfl (by decide) (by decide) hA21.now ?_
                      refine zj_bipushN (v := 8) (n := 255) rfl dX10_parseGroup_253 (by decide) ?_
                      refine zj_dup2 (n := 256) rfl dX10_parseGroup_255 ?_
                      refine zj_ialoadN (e := v 8) (n := 257) rfl dX10_parseGroup_256 (by decide) rfl (by rw [show zLen 120 = 698 from rfl]; omega) (by rw [hA21.2.2 8 (by decide), hw8]) ?_
                      refine zj_iconstN_1 (n := 258) rfl dX10_parseGroup_257 ?_
                      refine zj_iaddN (n := 259) rfl dX10_parseGroup_258 ?_
                      refine zj_iastoreN (n := 260) rfl dX10_parseGroup_259 (by decide) rfl (by rw [show zLen 120 = 698 from rfl]; omega) ?_
                      refine zj_return dX10_parseGroup_260 rfl ?_
                      exact h _ _ hF21.put hP21.st hA21.set hwV
          · refine zj_aload0 (n := 106) rfl dX10_parseGroup_105 ?_
            refine zj_iconstN_3 (n := 107) rfl dX10_parseGroup_106 ?_
            refine zj_callV1 (n := 110) (a' := 0) (b' := 0) rfl dX10_parseGroup_107 zm_X10_317 (by decide) (by decide) rfl (Nat.le_of_ble_eq_true rfl) (Nat.le_of_ble_eq_true rfl) (Nat.le_of_ble_eq_true rfl) (Nat.le_of_ble_eq_true rfl) (jX10_errs hP5 (by decide) ?_)
            intro M20 hG20 hP20
            refine zj_gen (P := fun M6 => zHf M M6 ∧ zPm M6 n B (gp4e B n v s) ∧ zRA M6 120 (vset (vlet v (268 + 23 * v 8 + 17) B (tS B n e2) (tE B n e2)) (268 + 23 * v 8 + 0) x5)) ⟨(hF5.tr (zHf.of2 hG20)), (by unfold gp4e; rw [c102]; exact hP20), (hA5.gf hG20)⟩ ?_
            intro M6 h6
            obtain ⟨hF6, hP6, hA6⟩ := h6
            refine zj_aload0 (n := 111) rfl dX10_parseGroup_110 ?_
            refine zj_callV0 (n := 114) (a' := 0) (b' := 0) rfl dX10_parseGroup_111 zm_X10_320 (by decide) (by decide) rfl (Nat.le_of_ble_eq_true rfl) (Nat.le_of_ble_eq_true rfl) (Nat.le_of_ble_eq_true rfl) (Nat.le_of_ble_eq_true rfl) (jX10_goOn hP6 ?_)
            intro M7 hG7 hP7
            have hF7 : zHf M M7 := hF6.tr (zHf.of hG7)
            have hA7 := hA6.gf hG7
            change zPm M7 n B (gp4 B n v s) at hP7
            refine zj_aload0 (n := 115) rfl dX10_parseGroup_114 ?_
            refine zj_getr (n := 118) (q := 120) rfl dX10_parseGroup_115 zf_X10_24 rfl (by decide) (by decide) hA7.now ?_
            refine zj_iload2 (n := 119) rfl dX10_parseGroup_118 ?_
            refine zj_iconstN_1 (n := 120) rfl dX10_parseGroup_119 ?_
            refine zj_iaddN (n := 121) rfl dX10_parseGroup_120 ?_
            refine zj_aload0 (n := 122) rfl dX10_parseGroup_121 ?_
            refine zj_ldcwS (i := 18) (n := 125) rfl dX10_parseGroup_122 rfl (by decide) rfl ?_
            refine zj_iconstN_0 (n := 126) rfl dX10_parseGroup_125 ?_
            refine zj_sipushN (v := 9999) (n := 129) rfl dX10_parseGroup_126 (by decide) ?_
            refine zj_callV3 (n := 132) (a' := 0) (b' := 0) rfl dX10_parseGroup_129 zm_X10_355 (by decide) (by decide) rfl (Nat.le_of_ble_eq_true rfl) (Nat.le_of_ble_eq_true rfl) (Nat.le_of_ble_eq_true rfl) (Nat.le_of_ble_eq_true rfl) (jX10_numberAfter hP7 (by decide) (by decide) (by decide) ?_)
            intro M8 x8 hx8b hG8 hP8 hx8
            have hF8 : zHf M M8 := hF7.tr (zHf.of hG8)
            have hA8 := hA7.gf hG8
            change zPm M8 n B (gp6 B n v s) at hP8
            refine zj_iastoreN (n := 133) rfl dX10_parseGroup_132 (by decide) rfl (by rw [show zLen 120 = 698 from rfl]; omega) ?_
            refine zj_gen (P := fun M9 => zHf M M9 ∧ zPm M9 n B (gp6 B n v s) ∧ zRA M9 120 (vset (vset (vlet v (268 + 23 * v 8 + 17) B (tS B n e2) (tE B n e2)) (268 + 23 * v 8 + 0) x5) (268 + 23 * v 8 + 1) x8)) ⟨hF8.put, hP8.st, hA8.set⟩ ?_
            intro M9 h9
            obtain ⟨hF9, hP9, hA9⟩ := h9
            refine zj_aload0 (n := 134) rfl dX10_parseGroup_133 ?_
            refine zj_getr (n := 137) (q := 120) rfl dX10_parseGroup_134 zf_X10_24 rfl (by decide) (by decide) hA9.now ?_
            refine zj_iload2 (n := 138) rfl dX10_parseGroup_137 ?_
            refine zj_iconstN_2 (n := 139) rfl dX10_parseGroup_138 ?_
            refine zj_iaddN (n := 140) rfl dX10_parseGroup_139 ?_
            refine zj_aload0 (n := 141) rfl dX10_parseGroup_140 ?_
            refine zj_ldcwS (i := 19) (n := 144) rfl dX10_parseGroup_141 rfl (by decide) rfl ?_
            refine zj_iconstN_1 (n := 145) rfl dX10_parseGroup_144 ?_
            refine zj_bipushN (v := 6) (n := 147) rfl dX10_parseGroup_145 (by decide) ?_
            refine zj_callV3 (n := 150) (a' := 0) (b' := 0) rfl dX10_parseGroup_147 zm_X10_355 (by decide) (by decide) rfl (Nat.le_of_ble_eq_true rfl) (Nat.le_of_ble_eq_true rfl) (Nat.le_of_ble_eq_true rfl) (Nat.le_of_ble_eq_true rfl) (jX10_numberAfter hP9 (by decide) (by decide) (by decide) ?_)
            intro M10 x10 hx10b hG10 hP10 hx10
            have hF10 : zHf M M10 := hF9.tr (zHf.of hG10)
            have hA10 := hA9.gf hG10
            change zPm M10 n B (gp8 B n v s) at hP10
            refine zj_iastoreN (n := 151) rfl dX10_parseGroup_150 (by decide) rfl (by rw [show zLen 120 = 698 from rfl]; omega) ?_
            refine zj_gen (P := fun M11 => zHf M M11 ∧ zPm M11 n B (gp8 B n v s) ∧ zRA M11 120 (vset (vset (vset (vlet v (268 + 23 * v 8 + 17) B (tS B n e2) (tE B n e2)) (268 + 23 * v 8 + 0) x5) (268 + 23 * v 8 + 1) x8) (268 + 23 * v 8 + 2) x10)) ⟨hF10.put, hP10.st, hA10.set⟩ ?_
            intro M11 h11
            obtain ⟨hF11, hP11, hA11⟩ := h11
            refine zj_aload0 (n := 152) rfl dX10_parseGroup_151 ?_
            refine zj_getr (n := 155) (q := 120) rfl dX10_parseGroup_152 zf_X10_24 rfl (by decide) (by decide) hA11.now ?_
            refine zj_iload2 (n := 156) rfl dX10_parseGroup_155 ?_
            refine zj_iconstN_3 (n := 157) rfl dX10_parseGroup_156 ?_
            refine zj_iaddN (n := 158) rfl dX10_parseGroup_157 ?_
            refine zj_aload0 (n := 159) rfl dX10_parseGroup_158 ?_
            refine zj_ldcwS (i := 20) (n := 162) rfl dX10_parseGroup_159 rfl (by decide) rfl ?_
            refine zj_iconstN_1 (n := 163) rfl dX10_parseGroup_162 ?_
            refine zj_iconstN_4 (n := 164) rfl dX10_parseGroup_163 ?_
            refine zj_callV3 (n := 167) (a' := 0) (b' := 0) rfl dX10_parseGroup_164 zm_X10_355 (by decide) (by decide) rfl (Nat.le_of_ble_eq_true rfl) (Nat.le_of_ble_eq_true rfl) (Nat.le_of_ble_eq_true rfl) (Nat.le_of_ble_eq_true rfl) (jX10_numberAfter hP11 (by decide) (by decide) (by decide) ?_)
            intro M12 x12 hx12b hG12 hP12 hx12
            have hF12 : zHf M M12 := hF11.tr (zHf.of hG12)
            have hA12 := hA11.gf hG12
            change zPm M12 n B (gp10 B n v s) at hP12
            refine zj_iastoreN (n := 168) rfl dX10_parseGroup_167 (by decide) rfl (by rw [show zLen 120 = 698 from rfl]; omega) ?_
            refine zj_gen (P := fun M13 => zHf M M13 ∧ zPm M13 n B (gp10 B n v s) ∧ zRA M13 120 (vset (vset (vset (vset (vlet v (268 + 23 * v 8 + 17) B (tS B n e2) (tE B n e2)) (268 + 23 * v 8 + 0) x5) (268 + 23 * v 8 + 1) x8) (268 + 23 * v 8 + 2) x10) (268 + 23 * v 8 + 3) x12)) ⟨hF12.put, hP12.st, hA12.set⟩ ?_
            intro M13 h13
            obtain ⟨hF13, hP13, hA13⟩ := h13
            refine zj_aload0 (n := 169) rfl dX10_parseGroup_168 ?_
            refine zj_getr (n := 172) (q := 120) rfl dX10_parseGroup_169 zf_X10_24 rfl (by decide) (by decide) hA13.now ?_
            refine zj_iload2 (n := 173) rfl dX10_parseGroup_172 ?_
            refine zj_iconstN_4 (n := 174) rfl dX10_parseGroup_173 ?_
            refine zj_iaddN (n := 175) rfl dX10_parseGroup_174 ?_
            refine zj_aload0 (n := 176) rfl dX10_parseGroup_175 ?_
            refine zj_ldcwS (i := 21) (n := 179) rfl dX10_parseGroup_176 rfl (by decide) rfl ?_
            refine zj_iconstN_1 (n := 180) rfl dX10_parseGroup_179 ?_
            refine zj_bipushN (v := 100) (n := 182) rfl dX10_parseGroup_180 (by decide) ?_
            refine zj_callV3 (n := 185) (a' := 0) (b' := 0) rfl dX10_parseGroup_182 zm_X10_355 (by decide) (by decide) rfl (Nat.le_of_ble_eq_true rfl) (Nat.le_of_ble_eq_true rfl) (Nat.le_of_ble_eq_true rfl) (Nat.le_of_ble_eq_true rfl) (jX10_numberAfter hP13 (by decide) (by decide) (by decide) ?_)
            intro M14 x14 hx14b hG14 hP14 hx14
            have hF14 : zHf M M14 := hF13.tr (zHf.of hG14)
            have hA14 := hA13.gf hG14
            change zPm M14 n B (gp12 B n v s) at hP14
            refine zj_iastoreN (n := 186) rfl dX10_parseGroup_185 (by decide) rfl (by rw [show zLen 120 = 698 from rfl]; omega) ?_
            refine zj_gen (P := fun M15 => zHf M M15 ∧ zPm M15 n B (gp12 B n v s) ∧ zRA M15 120 (vset (vset (vset (vset (vset (vlet v (268 + 23 * v 8 + 17) B (tS B n e2) (tE B n e2)) (268 + 23 * v 8 + 0) x5) (268 + 23 * v 8 + 1) x8) (268 + 23 * v 8 + 2) x10) (268 + 23 * v 8 + 3) x12) (268 + 23 * v 8 + 4) x14)) ⟨hF14.put, hP14.st, hA14.set⟩ ?_
            intro M15 h15
            obtain ⟨hF15, hP15, hA15⟩ := h15
            refine zj_aload0 (n := 187) rfl dX10_parseGroup_186 ?_
            refine zj_getr (n := 190) (q := 120) rfl dX10_parseGroup_187 zf_X10_24 rfl (by decide) (by decide) hA15.now ?_
            refine zj_iload2 (n := 191) rfl dX10_parseGroup_190 ?_
            refine zj_iconstN_5 (n := 192) rfl dX10_parseGroup_191 ?_
            refine zj_iaddN (n := 193) rfl dX10_parseGroup_192 ?_
            refine zj_aload0 (n := 194) rfl dX10_parseGroup_193 ?_
            refine zj_ldcwS (i := 22) (n := 197) rfl dX10_parseGroup_194 rfl (by decide) rfl ?_
            refine zj_iconstN_1 (n := 198) rfl dX10_parseGroup_197 ?_
            refine zj_sipushN (v := 9999) (n := 201) rfl dX10_parseGroup_198 (by decide) ?_
            refine zj_callV3 (n := 204) (a' := 0) (b' := 0) rfl dX10_parseGroup_201 zm_X10_355 (by decide) (by decide) rfl (Nat.le_of_ble_eq_true rfl) (Nat.le_of_ble_eq_true rfl) (Nat.le_of_ble_eq_true rfl) (Nat.le_of_ble_eq_true rfl) (jX10_numberAfter hP15 (by decide) (by decide) (by decide) ?_)
            intro M16 x16 hx16b hG16 hP16 hx16
            have hF16 : zHf M M16 := hF15.tr (zHf.of hG16)
            have hA16 := hA15.gf hG16
            change zPm M16 n B (gp14 B n v s) at hP16
            refine zj_iastoreN (n := 205) rfl dX10_parseGroup_204 (by decide) rfl (by rw [show zLen 120 = 698 from rfl]; omega) ?_
            refine zj_gen (P := fun M17 => zHf M M17 ∧ zPm M17 n B (gp14 B n v s) ∧ zRA M17 120 (vset (vset (vset (vset (vset (vset (vlet v (268 + 23 * v 8 + 17) B (tS B n e2) (tE B n e2)) (268 + 23 * v 8 + 0) x5) (268 + 23 * v 8 + 1) x8) (268 + 23 * v 8 + 2) x10) (268 + 23 * v 8 + 3) x12) (268 + 23 * v 8 + 4) x14) (268 + 23 * v 8 + 5) x16)) ⟨hF16.put, hP16.st, hA16.set⟩ ?_
            intro M17 h17
            obtain ⟨hF17, hP17, hA17⟩ := h17
            obtain ⟨hT17, -, -, -, -, e17, hen17, hK17, he17⟩ := id hP17
            have hts17 := tS_le (B := B) hen17
            have hk17 : tK B n e17 ≤ 3 := sK_le
            refine zj_aload0 (n := 206) rfl dX10_parseGroup_205 ?_
            refine zj_callV0 (n := 209) (a' := 0) (b' := 0) rfl dX10_parseGroup_206 zm_X10_226 (by decide) (by decide) rfl (Nat.le_of_ble_eq_true rfl) (Nat.le_of_ble_eq_true rfl) (Nat.le_of_ble_eq_true rfl) (Nat.le_of_ble_eq_true rfl) (jX10_good hP17 ?_)
            refine zj_ifB_eq (n := 212) (tgt := 242) rfl dX10_parseGroup_209 (by decide) (fun c209 => ?_) (fun c209 => ?_)
            · refine zj_gen (P := fun M20 => ∃ w, zHf M M20 ∧ zPm M20 n B (gp15 B n v s) ∧ zRA M20 120 w ∧ w 8 = v 8 ∧ ((sEnd B n (gp15 B n v s)).1 = 0 → vset w 8 (v 8 + 1) = vGrpF B n v s)) ⟨_, hF17, (by rw [g15n (of_decide_eq_false c209)]; exact hP17), hA17, (by rw [vset_off (by omega), vset_off (by omega), vset_off (by omega), vset_off (by omega), vset_off (by omega), vset_off (by omega), vlet_off (by omega)]), (fun q => absurd (sEndOk q).1 (by rw [g15n (of_decide_eq_false c209)]; exact of_decide_eq_false c209))⟩ ?_
              intro M20 h20
              obtain ⟨w, hF21, hP21, hA21, hw8, hwV⟩ := h20
              refine zj_aload0 (n := 243) rfl dX10_parseGroup_242 ?_
              refine zj_callV0 (n := 246) (a' := 0) (b' := 0) rfl dX10_parseGroup_243 zm_X10_226 (by decide) (by decide) rfl (Nat.le_of_ble_eq_true rfl) (Nat.le_of_ble_eq_true rfl) (Nat.le_of_ble_eq_true rfl) (Nat.le_of_ble_eq_true rfl) (jX10_good hP21 ?_)
              refine zj_ifB_eq (n := 249) (tgt := 260) rfl dX10_parseGroup_246 (by decide) (fun c246 => ?_) (fun c246 => ?_)
              · exact zj_return dX10_parseGroup_260 rfl (h M20 w hF21 hP21 hA21 (fun q => absurd (sEndOk q).1 (of_decide_eq_false c246)))
              · refine zj_aload0 (n := 250) rfl dX10_parseGroup_249 ?_
                refine zj_getr (n := 253) (q := 120) rfl dX10_parseGroup_250 zf_X10_24 rfl (by decide) (by decide) hA21.now ?_
                refine zj_bipushN (v := 8) (n := 255) rfl dX10_parseGroup_253 (by decide) ?_
                refine zj_dup2 (n := 256) rfl dX10_parseGroup_255 ?_
                refine zj_ialoadN (e := v 8) (n := 257) rfl dX10_parseGroup_256 (by decide) rfl (by rw [show zLen 120 = 698 from rfl]; omega) (by rw [hA21.2.2 8 (by decide), hw8]) ?_
                refine zj_iconstN_1 (n := 258) rfl dX10_parseGroup_257 ?_
                refine zj_iaddN (n := 259) rfl dX10_parseGroup_258 ?_
                refine zj_iastoreN (n := 260) rfl dX10_parseGroup_259 (by decide) rfl (by rw [show zLen 120 = 698 from rfl]; omega) ?_
                refine zj_return dX10_parseGroup_260 rfl ?_
                exact h _ _ hF21.put hP21.st hA21.set hwV
            · have q14 := of_decide_eq_true c209
              refine zj_aload0 (n := 213) rfl dX10_parseGroup_212 ?_
              refine zj_getiN (e := tK B n e17) (n := 216) rfl dX10_parseGroup_213 zf_X10_242 rfl (by decide) (by decide) hK17.1 ?_
              refine zj_iconstN_3 (n := 217) rfl dX10_parseGroup_216 ?_
              refine zj_icmpN_ne (n := 220) (tgt := 242) rfl dX10_parseGroup_217 (by decide) (by omega) (by omega) (fun c217 => ?_) (fun c217 => ?_)
              · refine zj_gen (P := fun M20 => ∃ w, zHf M M20 ∧ zPm M20 n B (gp15 B n v s) ∧ zRA M20 120 w ∧ w 8 = v 8 ∧ ((sEnd B n (gp15 B n v s)).1 = 0 → vset w 8 (v 8 + 1) = vGrpF B n v s)) ⟨_, hF17, (by rw [g15s (by unfold sSemi; rw [← he17 q14, beq_false_of_ne c217]; rfl)]; exact hP17), hA17, (by rw [vset_off (by omega), vset_off (by omega), vset_off (by omega), vset_off (by omega), vset_off (by omega), vset_off (by omega), vlet_off (by omega)]), (fun q => absurd (sEndOk q).2 (by rw [g15s (by unfold sSemi; rw [← he17 q14, beq_false_of_ne c217]; rfl)]; unfold sSemi; rw [← he17 q14, beq_false_of_ne c217]; simp))⟩ ?_
                intro M20 h20
                obtain ⟨w, hF21, hP21, hA21, hw8, hwV⟩ := h20
                refine zj_aload0 (n := 243) rfl dX10_parseGroup_242 ?_
                refine zj_callV0 (n := 246) (a' := 0) (b' := 0) rfl dX10_parseGroup_243 zm_X10_226 (by decide) (by decide) rfl (Nat.le_of_ble_eq_true rfl) (Nat.le_of_ble_eq_true rfl) (Nat.le_of_ble_eq_true rfl) (Nat.le_of_ble_eq_true rfl) (jX10_good hP21 ?_)
                refine zj_ifB_eq (n := 249) (tgt := 260) rfl dX10_parseGroup_246 (by decide) (fun c246 => ?_) (fun c246 => ?_)
                · exact zj_return dX10_parseGroup_260 rfl (h M20 w hF21 hP21 hA21 (fun q => absurd (sEndOk q).1 (of_decide_eq_false c246)))
                · refine zj_aload0 (n := 250) rfl dX10_parseGroup_249 ?_
                  refine zj_getr (n := 253) (q := 120) rfl dX10_parseGroup_250 zf_X10_24 rfl (by decide) (by decide) hA21.now ?_
                  refine zj_bipushN (v := 8) (n := 255) rfl dX10_parseGroup_253 (by decide) ?_
                  refine zj_dup2 (n := 256) rfl dX10_parseGroup_255 ?_
                  refine zj_ialoadN (e := v 8) (n := 257) rfl dX10_parseGroup_256 (by decide) rfl (by rw [show zLen 120 = 698 from rfl]; omega) (by rw [hA21.2.2 8 (by decide), hw8]) ?_
                  refine zj_iconstN_1 (n := 258) rfl dX10_parseGroup_257 ?_
                  refine zj_iaddN (n := 259) rfl dX10_parseGroup_258 ?_
                  refine zj_iastoreN (n := 260) rfl dX10_parseGroup_259 (by decide) rfl (by rw [show zLen 120 = 698 from rfl]; omega) ?_
                  refine zj_return dX10_parseGroup_260 rfl ?_
                  exact h _ _ hF21.put hP21.st hA21.set hwV
              · refine zj_aload0 (n := 221) rfl dX10_parseGroup_220 ?_
                refine zj_getiN (e := B (tS B n e17)) (n := 224) rfl dX10_parseGroup_221 zf_X10_253 rfl (by decide) (by decide) (hK17.2.2.2.2 c217) ?_
                have hsn17 : tS B n e17 < n := by
                  by_cases w : tS B n e17 < n
                  · exact w
                  · rw [show tK B n e17 = 0 from sK_0.mpr w] at c217; cases c217
                have hb17 := (hT17.2.2 _ hsn17).1
                refine zj_bipushN (v := 59) (n := 226) rfl dX10_parseGroup_224 (by decide) ?_
                refine zj_icmpN_ne (n := 229) (tgt := 242) rfl dX10_parseGroup_226 (by decide) (by omega) (by omega) (fun c226 => ?_) (fun c226 => ?_)
                · refine zj_gen (P := fun M20 => ∃ w, zHf M M20 ∧ zPm M20 n B (gp15 B n v s) ∧ zRA M20 120 w ∧ w 8 = v 8 ∧ ((sEnd B n (gp15 B n v s)).1 = 0 → vset w 8 (v 8 + 1) = vGrpF B n v s)) ⟨_, hF17, (by rw [g15s (by unfold sSemi; rw [← he17 q14, beq_false_of_ne c226, Bool.and_false])]; exact hP17), hA17, (by rw [vset_off (by omega), vset_off (by omega), vset_off (by omega), vset_off (by omega), vset_off (by omega), vset_off (by omega), vlet_off (by omega)]), (fun q => absurd (sEndOk q).2 (by rw [g15s (by unfold sSemi; rw [← he17 q14, beq_false_of_ne c226, Bool.and_false])]; unfold sSemi; rw [← he17 q14, beq_false_of_ne c226]; simp))⟩ ?_
                  intro M20 h20
                  obtain ⟨w, hF21, hP21, hA21, hw8, hwV⟩ := h20
                  refine zj_aload0 (n := 243) rfl dX10_parseGroup_242 ?_
                  refine zj_callV0 (n := 246) (a' := 0) (b' := 0) rfl dX10_parseGroup_243 zm_X10_226 (by decide) (by decide) rfl (Nat.le_of_ble_eq_true rfl) (Nat.le_of_ble_eq_true rfl) (Nat.le_of_ble_eq_true rfl) (Nat.le_of_ble_eq_true rfl) (jX10_good hP21 ?_)
                  refine zj_ifB_eq (n := 249) (tgt := 260) rfl dX10_parseGroup_246 (by decide) (fun c246 => ?_) (fun c246 => ?_)
                  · exact zj_return dX10_parseGroup_260 rfl (h M20 w hF21 hP21 hA21 (fun q => absurd (sEndOk q).1 (of_decide_eq_false c246)))
                  · refine zj_aload0 (n := 250) rfl dX10_parseGroup_249 ?_
                    refine zj_getr (n := 253) (q := 120) rfl dX10_parseGroup_250 zf_X10_24 rfl (by decide) (by decide) hA21.now ?_
                    refine zj_bipushN (v := 8) (n := 255) rfl dX10_parseGroup_253 (by decide) ?_
                    refine zj_dup2 (n := 256) rfl dX10_parseGroup_255 ?_
                    refine zj_ialoadN (e := v 8) (n := 257) rfl dX10_parseGroup_256 (by decide) rfl (by rw [show zLen 120 = 698 from rfl]; omega) (by rw [hA21.2.2 8 (by decide), hw8]) ?_
                    refine zj_iconstN_1 (n := 258) rfl dX10_parseGroup_257 ?_
                    refine zj_iaddN (n := 259) rfl dX10_parseGroup_258 ?_
                    refine zj_iastoreN (n := 260) rfl dX10_parseGroup_259 (by decide) rfl (by rw [show zLen 120 = 698 from rfl]; omega) ?_
                    refine zj_return dX10_parseGroup_260 rfl ?_
                    exact h _ _ hF21.put hP21.st hA21.set hwV
                · have hsem : sSemi B n (gp14 B n v s).2.2 = true := by unfold sSemi; rw [← he17 q14, c217, c226]; rfl
                  have q13 := (sNum_ok q14).1
                  have q12 := (sTake_ok q13).1
                  have q11 := (sNum_ok q12).1
                  have q10 := (sTake_ok q11).1
                  have q9 := (sNum_ok q10).1
                  have q8 := (sTake_ok q9).1
                  have q7 := (sNum_ok q8).1
                  have q6 := (sTake_ok q7).1
                  have q5 := (sNum_ok q6).1
                  have q4 := (sTake_ok q5).1
                  have q4e := (sErr_ok (by decide)).mp (sNext_ok.mp q4)
                  have q3 := ((sErr_ok (by decide)).mp q4e.1).1
                  have q2 := sNext_ok.mp (sTake_ok q3).1
                  have r2 := he2 q2
                  have r5 := hy5 q4e.1
                  have r8 := hx8 q6
                  have r10 := hx10 q8
                  have r12 := hx12 q10
                  have r14 := hx14 q12
                  have r16 := hx16 q14
                  have b8 := (sNum_ok q6).2.2
                  have b10 := (sNum_ok q8).2.2
                  have b12 := (sNum_ok q10).2.2
                  have b14 := (sNum_ok q12).2.2
                  have b16 := (sNum_ok q14).2.2
                  have eV : vset (vset (vset (vset (vset (vset (vlet v (268 + 23 * v 8 + 17) B (tS B n e2) (tE B n e2)) (268 + 23 * v 8 + 0) x5) (268 + 23 * v 8 + 1) x8) (268 + 23 * v 8 + 2) x10) (268 + 23 * v 8 + 3) x12) (268 + 23 * v 8 + 4) x14) (268 + 23 * v 8 + 5) x16 = vGrp B n v s := by
                    subst r2
                    have e5 : (gpt B n v s).getD 0 = x5 := by
                      cases q : gpt B n v s with
                      | none => have := q4e.2; rw [q] at this; cases this
                      | some t => exact (hz5 q4e.1 t q).symm
                    unfold vGrp
                    rw [e5, r8, r10, r12, r14, r16]
                    rfl
                  have hv8 : vGrp B n v s 8 = v 8 := by rw [← eV]; rw [vset_off (by omega), vset_off (by omega), vset_off (by omega), vset_off (by omega), vset_off (by omega), vset_off (by omega), vlet_off (by omega)]
                  have hA17v : zRA M17 120 (vGrp B n v s) := eV ▸ hA17
                  have hpq : zPq (vGrp B n v s) (v 8) := by
                    have hag : ∀ j, zAc v j → vGrp B n v s j = v j := fun j hj => by
                      unfold zAc at hj
                      rw [← eV]
                      rw [vset_off (by omega), vset_off (by omega), vset_off (by omega), vset_off (by omega), vset_off (by omega), vset_off (by omega), vlet_off (by omega)]
                    refine ⟨hW.ag hag, hv8, hlt, ?_, ?_⟩
                    · show vGrp B n v s (268 + 23 * v 8 + 2) + vGrp B n v s (268 + 23 * v 8 + 3) ≤ 10
                      unfold vGrp
                      rw [vset_off (show 268 + 23 * v 8 + 2 ≠ 268 + 23 * v 8 + 5 by omega), vset_off (show 268 + 23 * v 8 + 2 ≠ 268 + 23 * v 8 + 4 by omega), vset_off (show 268 + 23 * v 8 + 2 ≠ 268 + 23 * v 8 + 3 by omega), vset_at, vset_off (show 268 + 23 * v 8 + 3 ≠ 268 + 23 * v 8 + 5 by omega), vset_off (show 268 + 23 * v 8 + 3 ≠ 268 + 23 * v 8 + 4 by omega), vset_at]
                      have c10 : tN B n (gp7 B n v s).2.2 ≤ 6 := b10.2
                      have c12 : tN B n (gp9 B n v s).2.2 ≤ 4 := b12.2
                      omega
                    · unfold vGrp
                      rw [vset_off (by omega), vset_off (by omega), vset_off (by omega), vset_off (by omega), vset_at]
                      exact b8.2
                  refine zj_aload0 (n := 230) rfl dX10_parseGroup_229 ?_
                  refine zj_iload1 (n := 231) rfl dX10_parseGroup_230 ?_
                  refine zj_callV1 (n := 234) (a' := 0) (b' := 0) rfl dX10_parseGroup_231 zm_X10_360 (by decide) (by decide) rfl (Nat.le_of_ble_eq_true rfl) (Nat.le_of_ble_eq_true rfl) (Nat.le_of_ble_eq_true rfl) (Nat.le_of_ble_eq_true rfl) (jX10_isPlaced (v := vGrp B n v s) hA17v hpq ?_)
                  intro M18 u18 b18 hg18 hA18 hb18 hbs hu18
                  refine zj_ifB_ne (n := 237) (tgt := 242) rfl dX10_parseGroup_234 (by decide) (fun c234 => ?_) (fun c234 => ?_)
                  · obtain ⟨p9, hp9⟩ := hb18 c234
                    refine zj_gen (P := fun M20 => ∃ w, zHf M M20 ∧ zPm M20 n B (gp15 B n v s) ∧ zRA M20 120 w ∧ w 8 = v 8 ∧ ((sEnd B n (gp15 B n v s)).1 = 0 → vset w 8 (v 8 + 1) = vGrpF B n v s)) ⟨_, (hg18.hf hF17), (by rw [g15y hsem (by rw [hp9]; rfl)]; exact hg18.pm hP17), hA18, (by rw [hu18 8 (by omega)]; exact hv8), (fun _ => by unfold vGrpF; rw [hp9])⟩ ?_
                    intro M20 h20
                    obtain ⟨w, hF21, hP21, hA21, hw8, hwV⟩ := h20
                    refine zj_aload0 (n := 243) rfl dX10_parseGroup_242 ?_
                    refine zj_callV0 (n := 246) (a' := 0) (b' := 0) rfl dX10_parseGroup_243 zm_X10_226 (by decide) (by decide) rfl (Nat.le_of_ble_eq_true rfl) (Nat.le_of_ble_eq_true rfl) (Nat.le_of_ble_eq_true rfl) (Nat.le_of_ble_eq_true rfl) (jX10_good hP21 ?_)
                    refine zj_ifB_eq (n := 249) (tgt := 260) rfl dX10_parseGroup_246 (by decide) (fun c246 => ?_) (fun c246 => ?_)
                    · exact zj_return dX10_parseGroup_260 rfl (h M20 w hF21 hP21 hA21 (fun q => absurd (sEndOk q).1 (of_decide_eq_false c246)))
                    · refine zj_aload0 (n := 250) rfl dX10_parseGroup_249 ?_
                      refine zj_getr (n := 253) (q := 120) rfl dX10_parseGroup_250 zf_X10_24 rfl (by decide) (by decide) hA21.now ?_
                      refine zj_bipushN (v := 8) (n := 255) rfl dX10_parseGroup_253 (by decide) ?_
                      refine zj_dup2 (n := 256) rfl dX10_parseGroup_255 ?_
                      refine zj_ialoadN (e := v 8) (n := 257) rfl dX10_parseGroup_256 (by decide) rfl (by rw [show zLen 120 = 698 from rfl]; omega) (by rw [hA21.2.2 8 (by decide), hw8]) ?_
                      refine zj_iconstN_1 (n := 258) rfl dX10_parseGroup_257 ?_
                      refine zj_iaddN (n := 259) rfl dX10_parseGroup_258 ?_
                      refine zj_iastoreN (n := 260) rfl dX10_parseGroup_259 (by decide) rfl (by rw [show zLen 120 = 698 from rfl]; omega) ?_
                      refine zj_return dX10_parseGroup_260 rfl ?_
                      exact h _ _ hF21.put hP21.st hA21.set hwV
                  · refine zj_aload0 (n := 238) rfl dX10_parseGroup_237 ?_
                    refine zj_iconstN_5 (n := 239) rfl dX10_parseGroup_238 ?_
                    refine zj_callV1 (n := 242) (a' := 0) (b' := 0) rfl dX10_parseGroup_239 zm_X10_317 (by decide) (by decide) rfl (Nat.le_of_ble_eq_true rfl) (Nat.le_of_ble_eq_true rfl) (Nat.le_of_ble_eq_true rfl) (Nat.le_of_ble_eq_true rfl) (jX10_errs (hg18.pm hP17) (by decide) ?_)
                    intro M19 hG19 hP19
                    refine zj_gen (P := fun M20 => ∃ w, zHf M M20 ∧ zPm M20 n B (gp15 B n v s) ∧ zRA M20 120 w ∧ w 8 = v 8 ∧ ((sEnd B n (gp15 B n v s)).1 = 0 → vset w 8 (v 8 + 1) = vGrpF B n v s)) ⟨_, ((hg18.hf hF17).tr (zHf.of2 hG19)), (by rw [g15f hsem (by rw [c234] at hbs; cases hz : plS (vGrp B n v s) (v 8) (vsh (vGrp B n v s) (v 8)); rfl; rw [hz] at hbs; cases hbs)]; exact hP19), (hA18.gf hG19), (by rw [hu18 8 (by omega)]; exact hv8), (fun q => absurd (sEndOk q).1 (by rw [g15f hsem (by rw [c234] at hbs; cases hz : plS (vGrp B n v s) (v 8) (vsh (vGrp B n v s) (v 8)); rfl; rw [hz] at hbs; cases hbs), sRef_e q14]; simp))⟩ ?_
                    intro M20 h20
                    obtain ⟨w, hF21, hP21, hA21, hw8, hwV⟩ := h20
                    refine zj_aload0 (n := 243) rfl dX10_parseGroup_242 ?_
                    refine zj_callV0 (n := 246) (a' := 0) (b' := 0) rfl dX10_parseGroup_243 zm_X10_226 (by decide) (by decide) rfl (Nat.le_of_ble_eq_true rfl) (Nat.le_of_ble_eq_true rfl) (Nat.le_of_ble_eq_true rfl) (Nat.le_of_ble_eq_true rfl) (jX10_good hP21 ?_)
                    refine zj_ifB_eq (n := 249) (tgt := 260) rfl dX10_parseGroup_246 (by decide) (fun c246 => ?_) (fun c246 => ?_)
                    · exact zj_return dX10_parseGroup_260 rfl (h M20 w hF21 hP21 hA21 (fun q => absurd (sEndOk q).1 (of_decide_eq_false c246)))
                    · refine zj_aload0 (n := 250) rfl dX10_parseGroup_249 ?_
                      refine zj_getr (n := 253) (q := 120) rfl dX10_parseGroup_250 zf_X10_24 rfl (by decide) (by decide) hA21.now ?_
                      refine zj_bipushN (v := 8) (n := 255) rfl dX10_parseGroup_253 (by decide) ?_
                      refine zj_dup2 (n := 256) rfl dX10_parseGroup_255 ?_
                      refine zj_ialoadN (e := v 8) (n := 257) rfl dX10_parseGroup_256 (by decide) rfl (by rw [show zLen 120 = 698 from rfl]; omega) (by rw [hA21.2.2 8 (by decide), hw8]) ?_
                      refine zj_iconstN_1 (n := 258) rfl dX10_parseGroup_257 ?_
                      refine zj_iaddN (n := 259) rfl dX10_parseGroup_258 ?_
                      refine zj_iastoreN (n := 260) rfl dX10_parseGroup_259 (by decide) rfl (by rw [show zLen 120 = 698 from rfl]; omega) ?_
                      refine zj_return dX10_parseGroup_260 rfl ?_
                      exact h _ _ hF21.put hP21.st hA21.set hwV
    · refine zj_return dX10_parseGroup_24 rfl ?_
      have q1 := of_decide_eq_false c21
      have q10 := gp14_no (B := B) (n := n) (v := v) (s := s) q1
      have q14n : (gp14 B n v s).1 ≠ 0 := by rw [q10]; exact q1
      exact h M1 v hF1 (by rw [g15n q14n, q10]; exact hP1) hA1 (fun q => absurd (sEndOk q).1 (by rw [g15n q14n]; exact q14n))
