/-! THE CLASS'S QUESTIONS: the history -/
theorem jX9_needHistory {v : zV} {Q : Option Value → zM → Prop} {X : String → zM → Prop} {M : zM} (hR : zRg M 0 v) (hW : zWF v) (h : 0 < v 9 → Q none M) (h2 : v 9 = 0 → X "java/util/NoSuchElementException" M) : zJ yX9_needHistory cX9_needHistory 1 none rX9_needHistory Q X rX9_needHistory.cells rX9_needHistory.slots 0 (zEnt 1 [.ref 99]) [] M := by
  have h9 := hW.hN
  show zJ yX9_needHistory cX9_needHistory 1 none rX9_needHistory Q X 1 6 0 [some (.ref 99)] [] M
  refine zj_aload0 (n := 1) rfl dX9_needHistory_0 ?_
  refine zj_getr (n := 4) (q := 0) rfl dX9_needHistory_1 zf_X9_33 rfl (by decide) (by decide) rfl ?_
  refine zj_getr (n := 7) (q := 7) rfl dX9_needHistory_4 zf_X9_302 rfl (by decide) (by decide) rfl ?_
  refine zj_getiN (e := v 9) (n := 10) rfl dX9_needHistory_7 zf_X9_95 rfl (by decide) (by decide) hR.p.1.2.2.2.1 ?_
  refine zj_ifN_ne (n := 13) (tgt := 24) rfl dX9_needHistory_10 (by decide) (by omega) (fun c10 => ?_) (fun c10 => ?_)
  · exact zj_return dX9_needHistory_24 rfl (h (by omega))
  · exact zj_throwNS (i9 := 1) (text := "the history is empty") rfl zn_c1.1 zn_c1.2 ⟨by decide, rfl⟩ zn_tb zn_ot dX9_needHistory_13 dX9_needHistory_16 dX9_needHistory_17 dX9_needHistory_20 dX9_needHistory_23 (by decide) (by decide) (by decide) (by decide) (h2 c10)
def vdr (v : zV) (k : Nat) : Nat := zFor k (fun i b => if v (498 + 5 * b + 2) < v (498 + 5 * (i + 1) + 2) then i + 1 else b) 0
theorem vdr_succ (v : zV) (k : Nat) : vdr v (k + 1) = if v (498 + 5 * vdr v k + 2) < v (498 + 5 * (k + 1) + 2) then k + 1 else vdr v k := rfl
theorem vdr_le {v : zV} {n : Nat} : vdr v n ≤ n := vdear_le
theorem jX9_dearestRound {v : zV} {Q : Option Value → zM → Prop} {X : String → zM → Prop} {M : zM} (hC : zCl M v) (hW : zWF v) (hx1 : (a_dearest v).1 = 1 → X "java/util/NoSuchElementException" M) (h : (a_dearest v).1 = 0 → ∀ M', zQn M M' → Q (some (.int (a_dearest v).2)) M') : zJ yX9_dearestRound cX9_dearestRound 3 (some .int) rX9_dearestRound Q X rX9_dearestRound.cells rX9_dearestRound.slots 0 (zEnt 3 [.ref 99]) [] M := by
  have hR := hC.1
  have h6 := hW.nN
  have h7 := hW.tN
  have h8 := hW.gN
  have h9 := hW.hN
  show zJ yX9_dearestRound cX9_dearestRound 3 (some .int) rX9_dearestRound Q X 1 6 0 [some (.ref 99), none, none] [] M
  refine zj_aload0 (n := 1) rfl dX9_dearestRound_0 ?_
  refine zj_callV0 (n := 4) (a' := 0) (b' := 0) rfl dX9_dearestRound_1 zm_X9_311 (by decide) (by decide) rfl (Nat.le_of_ble_eq_true rfl) (Nat.le_of_ble_eq_true rfl) (Nat.le_of_ble_eq_true rfl) (Nat.le_of_ble_eq_true rfl) (jX9_needHistory hR hW (fun h0 => ?_) (fun q => hx1 (by unfold a_dearest; rw [if_pos q])))
  refine zj_iconstN_0 (n := 5) rfl dX9_dearestRound_4 ?_
  refine zj_istore1 (n := 6) rfl dX9_dearestRound_5 rfl (Nat.le_of_ble_eq_true rfl) ?_
  refine zj_iconstN_1 (n := 7) rfl dX9_dearestRound_6 ?_
  refine zj_istore2 (n := 8) rfl dX9_dearestRound_7 rfl (Nat.le_of_ble_eq_true rfl) ?_
  refine zFor_rule (P := fun k (_ : Unit) => zJ yX9_dearestRound cX9_dearestRound 3 (some .int) rX9_dearestRound Q X 0 0 8 [some (.ref 99), some (.int (nI (vdr v k))), some (.int (nI (k + 1)))] [] M) (n := v 9 - 1) (f := fun _ s => s) (s0 := ()) ?_ ?_
  · intro k _ hk9 hk
    have hb := vdr_le (v := v) (n := k)
    have q1 : v (498 + 5 * vdr v k + 2) ≤ 9999 := hW.hist (k := vdr v k) (by omega)
    have q2 : v (498 + 5 * (k + 1) + 2) ≤ 9999 := hW.hist (k := k + 1) (by omega)
    refine zj_iload2 (n := 9) rfl dX9_dearestRound_8 ?_
    refine zj_aload0 (n := 10) rfl dX9_dearestRound_9 ?_
    refine zj_getr (n := 13) (q := 0) rfl dX9_dearestRound_10 zf_X9_33 rfl (by decide) (by decide) rfl ?_
    refine zj_getr (n := 16) (q := 7) rfl dX9_dearestRound_13 zf_X9_302 rfl (by decide) (by decide) rfl ?_
    refine zj_getiN (e := v 9) (n := 19) rfl dX9_dearestRound_16 zf_X9_95 rfl (by decide) (by decide) hR.p.1.2.2.2.1 ?_
    refine zj_icmpN_ge (n := 22) (tgt := 57) rfl dX9_dearestRound_19 (by decide) (by omega) (by omega) (fun c19 => by omega) (fun c19 => ?_)
    refine zj_aload0 (n := 23) rfl dX9_dearestRound_22 ?_
    refine zj_getr (n := 26) (q := 0) rfl dX9_dearestRound_23 zf_X9_33 rfl (by decide) (by decide) rfl ?_
    refine zj_getr (n := 29) (q := 7) rfl dX9_dearestRound_26 zf_X9_302 rfl (by decide) (by decide) rfl ?_
    refine zj_iload2 (n := 30) rfl dX9_dearestRound_29 ?_
    refine zj_iconstN_2 (n := 31) rfl dX9_dearestRound_30 ?_
    refine zj_callV2 (n := 34) (a' := 0) (b' := 0) rfl dX9_dearestRound_31 zm_X9_126 (by decide) (by decide) rfl (Nat.le_of_ble_eq_true rfl) (Nat.le_of_ble_eq_true rfl) (Nat.le_of_ble_eq_true rfl) (Nat.le_of_ble_eq_true rfl) (jT_get hR.p.1 (by omega) (by decide) (hR.p.c (by omega) (by decide)) ?_)
    refine zj_aload0 (n := 35) rfl dX9_dearestRound_34 ?_
    refine zj_getr (n := 38) (q := 0) rfl dX9_dearestRound_35 zf_X9_33 rfl (by decide) (by decide) rfl ?_
    refine zj_getr (n := 41) (q := 7) rfl dX9_dearestRound_38 zf_X9_302 rfl (by decide) (by decide) rfl ?_
    refine zj_iload1 (n := 42) rfl dX9_dearestRound_41 ?_
    refine zj_iconstN_2 (n := 43) rfl dX9_dearestRound_42 ?_
    refine zj_callV2 (n := 46) (a' := 0) (b' := 0) rfl dX9_dearestRound_43 zm_X9_126 (by decide) (by decide) rfl (Nat.le_of_ble_eq_true rfl) (Nat.le_of_ble_eq_true rfl) (Nat.le_of_ble_eq_true rfl) (Nat.le_of_ble_eq_true rfl) (jT_get hR.p.1 (by omega) (by decide) (hR.p.c (by omega) (by decide)) ?_)
    refine zj_icmpN_le (n := 49) (tgt := 51) rfl dX9_dearestRound_46 (by decide) (by omega) (by omega) (fun c46 => ?_) (fun c46 => ?_)
    · refine zj_iincN2 (n := 54) rfl dX9_dearestRound_51 rfl (Nat.le_of_ble_eq_true rfl) ?_
      refine zj_goto (tgt := 8) dX9_dearestRound_54 (by decide) ?_
      rw [vdr_succ, if_neg (by omega)] at hk
      exact hk
    · refine zj_iload2 (n := 50) rfl dX9_dearestRound_49 ?_
      refine zj_istore1 (n := 51) rfl dX9_dearestRound_50 rfl (Nat.le_of_ble_eq_true rfl) ?_
      refine zj_iincN2 (n := 54) rfl dX9_dearestRound_51 rfl (Nat.le_of_ble_eq_true rfl) ?_
      refine zj_goto (tgt := 8) dX9_dearestRound_54 (by decide) ?_
      rw [vdr_succ, if_pos (by omega)] at hk
      exact hk
  · skip
    refine zj_iload2 (n := 9) rfl dX9_dearestRound_8 ?_
    refine zj_aload0 (n := 10) rfl dX9_dearestRound_9 ?_
    refine zj_getr (n := 13) (q := 0) rfl dX9_dearestRound_10 zf_X9_33 rfl (by decide) (by decide) rfl ?_
    refine zj_getr (n := 16) (q := 7) rfl dX9_dearestRound_13 zf_X9_302 rfl (by decide) (by decide) rfl ?_
    refine zj_getiN (e := v 9) (n := 19) rfl dX9_dearestRound_16 zf_X9_95 rfl (by decide) (by decide) hR.p.1.2.2.2.1 ?_
    refine zj_icmpN_ge (n := 22) (tgt := 57) rfl dX9_dearestRound_19 (by decide) (by omega) (by omega) (fun c19 => ?_) (fun c19 => by omega)
    refine zj_iload1 (n := 58) rfl dX9_dearestRound_57 ?_
    refine zj_ireturn dX9_dearestRound_58 rfl rfl ?_
    have e : a_dearest v = (0, nI (vdear v)) := by unfold a_dearest; rw [if_neg (by omega)]
    rw [e] at h
    exact h rfl _ hC.rf
