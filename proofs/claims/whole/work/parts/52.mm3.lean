/-! THE MODEL's changes: drain, grant, move -/
theorem jX10_drain {v : zV} {x : Int32} {un : Nat} {uv : Nat → zV} {b : Bool} {Q : Option Value → zM → Prop} {X : String → zM → Prop} {M : zM} (hA : zRA M 119 v) (hW : zWF v) (hd : M.1 118 4 = nI 0) (hU : zMu M un uv) (h : ∀ M', zMm M M' → M'.1 118 0 = nI (a_drain v x b).1 → zRA M' 119 (skeep (a_drain v x b).1 (vst v (xn x) (if b then 2 else 0)) v un uv).1 → zMu M' (skeep (a_drain v x b).1 (vst v (xn x) (if b then 2 else 0)) v un uv).2.1 (skeep (a_drain v x b).1 (vst v (xn x) (if b then 2 else 0)) v un uv).2.2 → Q (some (.int (a_drain v x b).2)) M') : zJ yX10_drain cX10_drain 4 (some .int) rX10_drain Q X rX10_drain.cells rX10_drain.slots 0 (zEnt 4 [.ref 118, .int x, .int (zb b)]) [] M := by
  have h6 := hW.nN
  have h7 := hW.tN
  have h8 := hW.gN
  have h9 := hW.hN
  show zJ yX10_drain cX10_drain 4 (some .int) rX10_drain Q X 0 0 0 [some (.ref 118), some (.int x), some (.int (zb b)), none] [] M
  refine zj_aload0 (n := 1) rfl dX10_drain_0 ?_
  refine zj_iload1 (n := 2) rfl dX10_drain_1 ?_
  refine zj_callV1 (n := 5) (a' := 0) (b' := 0) rfl dX10_drain_2 zm_X10_390 (by decide) (by decide) rfl (Nat.le_of_ble_eq_true rfl) (Nat.le_of_ble_eq_true rfl) (Nat.le_of_ble_eq_true rfl) (Nat.le_of_ble_eq_true rfl) (jX10_isNode hA (by omega) ?_)
  refine zj_ifB_eq (n := 8) (tgt := 26) rfl dX10_drain_5 (by decide) (fun c5 => ?_) (fun c5 => ?_)
  · refine zj_iconstN_1 (n := 27) rfl dX10_drain_26 ?_
    refine zj_goto (tgt := 31) dX10_drain_27 (by decide) ?_
    rw [show nI 1 = zb (!zin x (v 6) || decide (v (10 + 12 * xn x + 4) = (if b then 0 else 2))) from by rw [c5]; rfl]
    refine zj_istore3 (n := 32) rfl dX10_drain_31 rfl (Nat.le_of_ble_eq_true rfl) ?_
    refine zj_aload0 (n := 33) rfl dX10_drain_32 ?_
    refine zj_aload0 (n := 34) rfl dX10_drain_33 ?_
    refine zj_iload1 (n := 35) rfl dX10_drain_34 ?_
    refine zj_callV1 (n := 38) (a' := 0) (b' := 0) rfl dX10_drain_35 zm_X10_390 (by decide) (by decide) rfl (Nat.le_of_ble_eq_true rfl) (Nat.le_of_ble_eq_true rfl) (Nat.le_of_ble_eq_true rfl) (Nat.le_of_ble_eq_true rfl) (jX10_isNode hA (by omega) ?_)
    refine zj_iload3 (n := 39) rfl dX10_drain_38 ?_
    refine zj_callV2 (n := 42) (a' := 0) (b' := 0) rfl dX10_drain_39 zm_X10_395 (by decide) (by decide) rfl (Nat.le_of_ble_eq_true rfl) (Nat.le_of_ble_eq_true rfl) (Nat.le_of_ble_eq_true rfl) (Nat.le_of_ble_eq_true rfl) (jX10_passes2Q ?_)
    intro M1 hQ1 hF1 hL1 h118 ht1
    have hA1 := hQ1.ra hA
    have hd1 := hQ1.td hd
    refine zj_ifB_ne (n := 45) (tgt := 47) rfl dX10_drain_42 (by decide) (fun c42 => absurd c42 (by rw [c5]; simp)) (fun c42 => ?_)
    refine zj_iconstN_0 (n := 46) rfl dX10_drain_45 ?_
    refine zj_ireturn dX10_drain_46 rfl rfl ?_
    simp only [a_drain, skeep, c5, if_false, Bool.false_eq_true, if_neg (show ¬ (1 : Nat) = 0 by decide)] at h
    exact h M1 (zMm.ofQ hQ1) (by rw [ht1, c5]; rfl) hA1 (hU.ofQ hQ1)
  · obtain ⟨n, hn, rfl⟩ := (zin_iff (by omega)).mp c5
    have hn4 : v (10 + 12 * n + 4) ≤ 2 := (hW.node hn).2.2.2.2
    refine zj_aload0 (n := 9) rfl dX10_drain_8 ?_
    refine zj_iload1 (n := 10) rfl dX10_drain_9 ?_
    refine zj_iconstN_4 (n := 11) rfl dX10_drain_10 ?_
    refine zj_callV2 (n := 14) (a' := 0) (b' := 0) rfl dX10_drain_11 zm_X10_77 (by decide) (by decide) rfl (Nat.le_of_ble_eq_true rfl) (Nat.le_of_ble_eq_true rfl) (Nat.le_of_ble_eq_true rfl) (Nat.le_of_ble_eq_true rfl) (jX10_nodeValue (c := 4) hA (by omega) ?_)
    refine zj_iload2 (n := 15) rfl dX10_drain_14 ?_
    refine zj_ifB_eq (n := 18) (tgt := 22) rfl dX10_drain_15 (by decide) (fun c15 => ?_) (fun c15 => ?_)
    · refine zj_iconstN_2 (n := 23) rfl dX10_drain_22 ?_
      refine zj_icmpN_ne (n := 26) (tgt := 30) rfl dX10_drain_23 (by decide) (by omega) (by omega) (fun c23 => ?_) (fun c23 => ?_)
      · have hdd : decide (v (10 + 12 * xn (nI n) + 4) = (if b then 0 else 2)) = false := by rw [xn_at (show n < 2 ^ 31 by omega), c15]; exact decide_eq_false (by simpa using c23)
        refine zj_iconstN_0 (n := 31) rfl dX10_drain_30 ?_
        rw [show nI 0 = zb (!zin (nI n) (v 6) || decide (v (10 + 12 * xn (nI n) + 4) = (if b then 0 else 2))) from by rw [c5, hdd]; rfl]
        refine zj_istore3 (n := 32) rfl dX10_drain_31 rfl (Nat.le_of_ble_eq_true rfl) ?_
        refine zj_aload0 (n := 33) rfl dX10_drain_32 ?_
        refine zj_aload0 (n := 34) rfl dX10_drain_33 ?_
        refine zj_iload1 (n := 35) rfl dX10_drain_34 ?_
        refine zj_callV1 (n := 38) (a' := 0) (b' := 0) rfl dX10_drain_35 zm_X10_390 (by decide) (by decide) rfl (Nat.le_of_ble_eq_true rfl) (Nat.le_of_ble_eq_true rfl) (Nat.le_of_ble_eq_true rfl) (Nat.le_of_ble_eq_true rfl) (jX10_isNode hA (by omega) ?_)
        refine zj_iload3 (n := 39) rfl dX10_drain_38 ?_
        refine zj_callV2 (n := 42) (a' := 0) (b' := 0) rfl dX10_drain_39 zm_X10_395 (by decide) (by decide) rfl (Nat.le_of_ble_eq_true rfl) (Nat.le_of_ble_eq_true rfl) (Nat.le_of_ble_eq_true rfl) (Nat.le_of_ble_eq_true rfl) (jX10_passes2Q ?_)
        intro M1 hQ1 hF1 hL1 h118 ht1
        have hA1 := hQ1.ra hA
        have hd1 := hQ1.td hd
        refine zj_ifB_ne (n := 45) (tgt := 47) rfl dX10_drain_42 (by decide) (fun c42 => absurd c42 (by rw [c5, hdd]; simp)) (fun c42 => ?_)
        refine zj_iconstN_0 (n := 46) rfl dX10_drain_45 ?_
        refine zj_ireturn dX10_drain_46 rfl rfl ?_
        have d3 := of_decide_eq_false hdd
        simp only [a_drain, skeep, c5, if_true, if_neg d3, if_neg (show ¬ (2 : Nat) = 0 by decide)] at h
        exact h M1 (zMm.ofQ hQ1) (by rw [ht1, c5, hdd]; rfl) hA1 (hU.ofQ hQ1)
      · have hdd : decide (v (10 + 12 * xn (nI n) + 4) = (if b then 0 else 2)) = true := by rw [xn_at (show n < 2 ^ 31 by omega), c15]; exact decide_eq_true (by simpa using c23)
        refine zj_iconstN_1 (n := 27) rfl dX10_drain_26 ?_
        refine zj_goto (tgt := 31) dX10_drain_27 (by decide) ?_
        rw [show nI 1 = zb (!zin (nI n) (v 6) || decide (v (10 + 12 * xn (nI n) + 4) = (if b then 0 else 2))) from by rw [c5, hdd]; rfl]
        refine zj_istore3 (n := 32) rfl dX10_drain_31 rfl (Nat.le_of_ble_eq_true rfl) ?_
        refine zj_aload0 (n := 33) rfl dX10_drain_32 ?_
        refine zj_aload0 (n := 34) rfl dX10_drain_33 ?_
        refine zj_iload1 (n := 35) rfl dX10_drain_34 ?_
        refine zj_callV1 (n := 38) (a' := 0) (b' := 0) rfl dX10_drain_35 zm_X10_390 (by decide) (by decide) rfl (Nat.le_of_ble_eq_true rfl) (Nat.le_of_ble_eq_true rfl) (Nat.le_of_ble_eq_true rfl) (Nat.le_of_ble_eq_true rfl) (jX10_isNode hA (by omega) ?_)
        refine zj_iload3 (n := 39) rfl dX10_drain_38 ?_
        refine zj_callV2 (n := 42) (a' := 0) (b' := 0) rfl dX10_drain_39 zm_X10_395 (by decide) (by decide) rfl (Nat.le_of_ble_eq_true rfl) (Nat.le_of_ble_eq_true rfl) (Nat.le_of_ble_eq_true rfl) (Nat.le_of_ble_eq_true rfl) (jX10_passes2Q ?_)
        intro M1 hQ1 hF1 hL1 h118 ht1
        have hA1 := hQ1.ra hA
        have hd1 := hQ1.td hd
        refine zj_ifB_ne (n := 45) (tgt := 47) rfl dX10_drain_42 (by decide) (fun c42 => ?_) (fun c42 => absurd c42 (by rw [c5, hdd]; simp))
        refine zj_aload0 (n := 48) rfl dX10_drain_47 ?_
        refine zj_callV0 (n := 51) (a' := 0) (b' := 0) rfl dX10_drain_48 zm_X10_382 (by decide) (by decide) rfl (Nat.le_of_ble_eq_true rfl) (Nat.le_of_ble_eq_true rfl) (Nat.le_of_ble_eq_true rfl) (Nat.le_of_ble_eq_true rfl) (jX10_remember hA1 (hU.ofQ hQ1) ?_)
        intro M2 a21 a22 a23 hU2
        have hA2 := hA1.rem a21 a23
        have hm2 := (zMm.ofQ hQ1).rem a21 a22 a23
        have ht2 : M2.1 118 0 = M1.1 118 0 := a22 0 (by decide)
        have hd2 := hm2.td hd
        refine zj_aload0 (n := 52) rfl dX10_drain_51 ?_
        refine zj_iload1 (n := 53) rfl dX10_drain_52 ?_
        refine zj_iload2 (n := 54) rfl dX10_drain_53 ?_
        refine zj_ifB_eq (n := 57) (tgt := 61) rfl dX10_drain_54 (by decide) (fun c54 => ?_) (fun c54 => absurd (c15.symm.trans c54) (by decide))
        refine zj_iconstN_0 (n := 62) rfl dX10_drain_61 ?_
        refine zj_callV2 (n := 65) (a' := 0) (b' := 0) rfl dX10_drain_62 zm_X10_423 (by decide) (by decide) rfl (Nat.le_of_ble_eq_true rfl) (Nat.le_of_ble_eq_true rfl) (Nat.le_of_ble_eq_true rfl) (Nat.le_of_ble_eq_true rfl) (jX10_become hA2 (by omega) ?_)
        intro M3 a31 a32 hA3
        have hm3 : zMm M M3 := hm2.tr ⟨fun a j hj => by rw [a31 a (fun q => by subst q; simp [zMmI] at hj)], fun c j _ _ => by rw [a32], by rw [a32]⟩
        have hU3 := hU2.q (by rw [a31 118 (by decide)]) (a31 128 (by decide))
        have ht3 : M3.1 118 0 = M1.1 118 0 := (by rw [a31 118 (by decide)]; exact ht2)
        have hd3 := hm3.td hd
        have hW3 := vst_wf hW hn (x := 0) (by decide)
        have e9 : vcnt (vst v n 0) (vst v n 0 8) n = vcnt v (v 8) n := by
          have e8 : vst v n 0 8 = v 8 := by unfold vst; rw [vset_off (by omega), vset_off (by omega)]
          rw [e8]
          exact vcnt_vg h8 (fun g hg => (hW.sh hg).2) (fun i h1 h2 => by unfold vst; rw [vset_off (by omega), vset_off (by omega)])
        refine zj_aload0 (n := 66) rfl dX10_drain_65 ?_
        refine zj_iload1 (n := 67) rfl dX10_drain_66 ?_
        refine zj_iconstN_0 (n := 68) rfl dX10_drain_67 ?_
        refine zj_iconstN_0 (n := 69) rfl dX10_drain_68 ?_
        refine zj_callV3 (n := 72) (a' := 0) (b' := 0) rfl dX10_drain_69 zm_X10_87 (by decide) (by decide) rfl (Nat.le_of_ble_eq_true rfl) (Nat.le_of_ble_eq_true rfl) (Nat.le_of_ble_eq_true rfl) (Nat.le_of_ble_eq_true rfl) (jX10_shardsOn (v := vst v n 0) (more := 0) (few := 0) hA3 hW3.gN (fun g hg => (hW3.sh hg).2) (fun g s hg hs => by have := hW3.holds hg hs; have := hW3.nN; omega) (by decide) (by decide) (fun s hs => absurd hs (Nat.not_lt_zero s)) (by omega) ?_)
        refine zj_ireturn dX10_drain_72 rfl rfl ?_
        have d3 := of_decide_eq_true hdd
        simp only [a_drain, skeep, c5, if_true, if_pos d3] at h
        rw [xn_at (show n < 2 ^ 31 by omega), c15] at h
        refine zQi (h M3 hm3 (by rw [ht3, ht1, c5, hdd]; rfl) hA3 hU3) ?_
        exact congrArg nI e9.symm
    · refine zj_iconstN_0 (n := 19) rfl dX10_drain_18 ?_
      refine zj_goto (tgt := 23) dX10_drain_19 (by decide) ?_
      refine zj_icmpN_ne (n := 26) (tgt := 30) rfl dX10_drain_23 (by decide) (by omega) (by omega) (fun c23 => ?_) (fun c23 => ?_)
      · have hdd : decide (v (10 + 12 * xn (nI n) + 4) = (if b then 0 else 2)) = false := by rw [xn_at (show n < 2 ^ 31 by omega), c15]; exact decide_eq_false (by simpa using c23)
        refine zj_iconstN_0 (n := 31) rfl dX10_drain_30 ?_
        rw [show nI 0 = zb (!zin (nI n) (v 6) || decide (v (10 + 12 * xn (nI n) + 4) = (if b then 0 else 2))) from by rw [c5, hdd]; rfl]
        refine zj_istore3 (n := 32) rfl dX10_drain_31 rfl (Nat.le_of_ble_eq_true rfl) ?_
        refine zj_aload0 (n := 33) rfl dX10_drain_32 ?_
        refine zj_aload0 (n := 34) rfl dX10_drain_33 ?_
        refine zj_iload1 (n := 35) rfl dX10_drain_34 ?_
        refine zj_callV1 (n := 38) (a' := 0) (b' := 0) rfl dX10_drain_35 zm_X10_390 (by decide) (by decide) rfl (Nat.le_of_ble_eq_true rfl) (Nat.le_of_ble_eq_true rfl) (Nat.le_of_ble_eq_true rfl) (Nat.le_of_ble_eq_true rfl) (jX10_isNode hA (by omega) ?_)
        refine zj_iload3 (n := 39) rfl dX10_drain_38 ?_
        refine zj_callV2 (n := 42) (a' := 0) (b' := 0) rfl dX10_drain_39 zm_X10_395 (by decide) (by decide) rfl (Nat.le_of_ble_eq_true rfl) (Nat.le_of_ble_eq_true rfl) (Nat.le_of_ble_eq_true rfl) (Nat.le_of_ble_eq_true rfl) (jX10_passes2Q ?_)
        intro M1 hQ1 hF1 hL1 h118 ht1
        have hA1 := hQ1.ra hA
        have hd1 := hQ1.td hd
        refine zj_ifB_ne (n := 45) (tgt := 47) rfl dX10_drain_42 (by decide) (fun c42 => absurd c42 (by rw [c5, hdd]; simp)) (fun c42 => ?_)
        refine zj_iconstN_0 (n := 46) rfl dX10_drain_45 ?_
        refine zj_ireturn dX10_drain_46 rfl rfl ?_
        have d3 := of_decide_eq_false hdd
        simp only [a_drain, skeep, c5, if_true, if_neg d3, if_neg (show ¬ (2 : Nat) = 0 by decide)] at h
        exact h M1 (zMm.ofQ hQ1) (by rw [ht1, c5, hdd]; rfl) hA1 (hU.ofQ hQ1)
      · have hdd : decide (v (10 + 12 * xn (nI n) + 4) = (if b then 0 else 2)) = true := by rw [xn_at (show n < 2 ^ 31 by omega), c15]; exact decide_eq_true (by simpa using c23)
        refine zj_iconstN_1 (n := 27) rfl dX10_drain_26 ?_
        refine zj_goto (tgt := 31) dX10_drain_27 (by decide) ?_
        rw [show nI 1 = zb (!zin (nI n) (v 6) || decide (v (10 + 12 * xn (nI n) + 4) = (if b then 0 else 2))) from by rw [c5, hdd]; rfl]
        refine zj_istore3 (n := 32) rfl dX10_drain_31 rfl (Nat.le_of_ble_eq_true rfl) ?_
        refine zj_aload0 (n := 33) rfl dX10_drain_32 ?_
        refine zj_aload0 (n := 34) rfl dX10_drain_33 ?_
        refine zj_iload1 (n := 35) rfl dX10_drain_34 ?_
        refine zj_callV1 (n := 38) (a' := 0) (b' := 0) rfl dX10_drain_35 zm_X10_390 (by decide) (by decide) rfl (Nat.le_of_ble_eq_true rfl) (Nat.le_of_ble_eq_true rfl) (Nat.le_of_ble_eq_true rfl) (Nat.le_of_ble_eq_true rfl) (jX10_isNode hA (by omega) ?_)
        refine zj_iload3 (n := 39) rfl dX10_drain_38 ?_
        refine zj_callV2 (n := 42) (a' := 0) (b' := 0) rfl dX10_drain_39 zm_X10_395 (by decide) (by decide) rfl (Nat.le_of_ble_eq_true rfl) (Nat.le_of_ble_eq_true rfl) (Nat.le_of_ble_eq_true rfl) (Nat.le_of_ble_eq_true rfl) (jX10_passes2Q ?_)
        intro M1 hQ1 hF1 hL1 h118 ht1
        have hA1 := hQ1.ra hA
        have hd1 := hQ1.td hd
        refine zj_ifB_ne (n := 45) (tgt := 47) rfl dX10_drain_42 (by decide) (fun c42 => ?_) (fun c42 => absurd c42 (by rw [c5, hdd]; simp))
        refine zj_aload0 (n := 48) rfl dX10_drain_47 ?_
        refine zj_callV0 (n := 51) (a' := 0) (b' := 0) rfl dX10_drain_48 zm_X10_382 (by decide) (by decide) rfl (Nat.le_of_ble_eq_true rfl) (Nat.le_of_ble_eq_true rfl) (Nat.le_of_ble_eq_true rfl) (Nat.le_of_ble_eq_true rfl) (jX10_remember hA1 (hU.ofQ hQ1) ?_)
        intro M2 a21 a22 a23 hU2
        have hA2 := hA1.rem a21 a23
        have hm2 := (zMm.ofQ hQ1).rem a21 a22 a23
        have ht2 : M2.1 118 0 = M1.1 118 0 := a22 0 (by decide)
        have hd2 := hm2.td hd
        refine zj_aload0 (n := 52) rfl dX10_drain_51 ?_
        refine zj_iload1 (n := 53) rfl dX10_drain_52 ?_
        refine zj_iload2 (n := 54) rfl dX10_drain_53 ?_
        refine zj_ifB_eq (n := 57) (tgt := 61) rfl dX10_drain_54 (by decide) (fun c54 => absurd (c15.symm.trans c54) (by decide)) (fun c54 => ?_)
        refine zj_iconstN_2 (n := 58) rfl dX10_drain_57 ?_
        refine zj_goto (tgt := 62) dX10_drain_58 (by decide) ?_
        refine zj_callV2 (n := 65) (a' := 0) (b' := 0) rfl dX10_drain_62 zm_X10_423 (by decide) (by decide) rfl (Nat.le_of_ble_eq_true rfl) (Nat.le_of_ble_eq_true rfl) (Nat.le_of_ble_eq_true rfl) (Nat.le_of_ble_eq_true rfl) (jX10_become hA2 (by omega) ?_)
        intro M3 a31 a32 hA3
        have hm3 : zMm M M3 := hm2.tr ⟨fun a j hj => by rw [a31 a (fun q => by subst q; simp [zMmI] at hj)], fun c j _ _ => by rw [a32], by rw [a32]⟩
        have hU3 := hU2.q (by rw [a31 118 (by decide)]) (a31 128 (by decide))
        have ht3 : M3.1 118 0 = M1.1 118 0 := (by rw [a31 118 (by decide)]; exact ht2)
        have hd3 := hm3.td hd
        have hW3 := vst_wf hW hn (x := 2) (by decide)
        have e9 : vcnt (vst v n 2) (vst v n 2 8) n = vcnt v (v 8) n := by
          have e8 : vst v n 2 8 = v 8 := by unfold vst; rw [vset_off (by omega), vset_off (by omega)]
          rw [e8]
          exact vcnt_vg h8 (fun g hg => (hW.sh hg).2) (fun i h1 h2 => by unfold vst; rw [vset_off (by omega), vset_off (by omega)])
        refine zj_aload0 (n := 66) rfl dX10_drain_65 ?_
        refine zj_iload1 (n := 67) rfl dX10_drain_66 ?_
        refine zj_iconstN_0 (n := 68) rfl dX10_drain_67 ?_
        refine zj_iconstN_0 (n := 69) rfl dX10_drain_68 ?_
        refine zj_callV3 (n := 72) (a' := 0) (b' := 0) rfl dX10_drain_69 zm_X10_87 (by decide) (by decide) rfl (Nat.le_of_ble_eq_true rfl) (Nat.le_of_ble_eq_true rfl) (Nat.le_of_ble_eq_true rfl) (Nat.le_of_ble_eq_true rfl) (jX10_shardsOn (v := vst v n 2) (more := 0) (few := 0) hA3 hW3.gN (fun g hg => (hW3.sh hg).2) (fun g s hg hs => by have := hW3.holds hg hs; have := hW3.nN; omega) (by decide) (by decide) (fun s hs => absurd hs (Nat.not_lt_zero s)) (by omega) ?_)
        refine zj_ireturn dX10_drain_72 rfl rfl ?_
        have d3 := of_decide_eq_true hdd
        simp only [a_drain, skeep, c5, if_true, if_pos d3] at h
        rw [xn_at (show n < 2 ^ 31 by omega), c15] at h
        refine zQi (h M3 hm3 (by rw [ht3, ht1, c5, hdd]; rfl) hA3 hU3) ?_
        exact congrArg nI e9.symm
theorem zi64t {x : Int32} {p : Nat} (hp : p < 2 ^ 31) : ¬ 0 < lg_cmp (lN p + x.toInt64) (lN 9999999) ↔ (p : Int) + x.toInt ≤ 9999999 := by
  have e1 : (lN p + x.toInt64).toInt = (p : Int) + x.toInt := by
    rw [Int64.toInt_add, zi64, pk_lT (show p < 2 ^ 63 by omega)]
    have h1 := Int32.toInt_lt x
    have h2 := Int32.le_toInt x
    rw [Int.bmod_eq_of_le (by omega) (by omega)]
  have e2 : (lN 9999999).toInt = 9999999 := by decide
  unfold lg_cmp
  constructor
  · intro h
    refine Int.not_lt.mp (fun q => h ?_)
    rw [if_pos (by show lN 9999999 < _; rw [Int64.lt_iff_toInt_lt, e1, e2]; exact q)]
    decide
  · intro h
    rw [if_neg (by show ¬ lN 9999999 < _; rw [Int64.lt_iff_toInt_lt, e1, e2]; omega)]
    split <;> decide
theorem jX10_grant {v : zV} {x : Int32} {z : Int32} {un : Nat} {uv : Nat → zV} {Q : Option Value → zM → Prop} {X : String → zM → Prop} {M : zM} (hA : zRA M 119 v) (hW : zWF v) (hd : M.1 118 4 = nI 0) (hU : zMu M un uv) (h : ∀ M', zMm M M' → M'.1 118 0 = nI (a_grant v x z).1 → zRA M' 119 (skeep (a_grant v x z).1 (vset v (202 + 11 * xn x + 2) (v (202 + 11 * xn x + 2) + xn z)) v un uv).1 → zMu M' (skeep (a_grant v x z).1 (vset v (202 + 11 * xn x + 2) (v (202 + 11 * xn x + 2) + xn z)) v un uv).2.1 (skeep (a_grant v x z).1 (vset v (202 + 11 * xn x + 2) (v (202 + 11 * xn x + 2) + xn z)) v un uv).2.2 → Q (some (.int (a_grant v x z).2)) M') : zJ yX10_grant cX10_grant 5 (some .int) rX10_grant Q X rX10_grant.cells rX10_grant.slots 0 (zEnt 5 [.ref 118, .int x, .int z]) [] M := by
  have h6 := hW.nN
  have h7 := hW.tN
  have h8 := hW.gN
  have h9 := hW.hN
  show zJ yX10_grant cX10_grant 5 (some .int) rX10_grant Q X 0 0 0 [some (.ref 118), some (.int x), some (.int z), none, none] [] M
  refine zj_aload0 (n := 1) rfl dX10_grant_0 ?_
  refine zj_iload1 (n := 2) rfl dX10_grant_1 ?_
  refine zj_callV1 (n := 5) (a' := 0) (b' := 0) rfl dX10_grant_2 zm_X10_401 (by decide) (by decide) rfl (Nat.le_of_ble_eq_true rfl) (Nat.le_of_ble_eq_true rfl) (Nat.le_of_ble_eq_true rfl) (Nat.le_of_ble_eq_true rfl) (jX10_isTenant hA (by omega) ?_)
  refine zj_istore3 (n := 6) rfl dX10_grant_5 rfl (Nat.le_of_ble_eq_true rfl) ?_
  refine zj_aload0 (n := 7) rfl dX10_grant_6 ?_
  refine zj_iload3 (n := 8) rfl dX10_grant_7 ?_
  refine zj_iload2 (n := 9) rfl dX10_grant_8 ?_
  refine zj_i2l (n := 10) rfl dX10_grant_9 ?_
  refine zj_lconstN_1 (n := 11) rfl dX10_grant_10 ?_
  refine zj_ldc2N (v := 999999) (n := 14) rfl dX10_grant_11 zc_X10_438 ?_
  refine zj_callS3 (n := 17) (a' := 0) (b' := 0) rfl dX10_grant_14 zm_X10_62 (by decide) (Nat.le_of_ble_eq_true rfl) (Nat.le_of_ble_eq_true rfl) (Nat.le_of_ble_eq_true rfl) (Nat.le_of_ble_eq_true rfl) (jX10_inC (by decide) (by decide) ?_)
  refine zj_iload3 (n := 18) rfl dX10_grant_17 ?_
  refine zj_ifB_eq (n := 21) (tgt := 38) rfl dX10_grant_18 (by decide) (fun c18 => ?_) (fun c18 => ?_)
  · refine zj_iconstN_1 (n := 39) rfl dX10_grant_38 ?_
    refine zj_goto (tgt := 43) dX10_grant_39 (by decide) ?_
    rw [show nI 1 = zb (!zin x (v 7) || decide ((v (202 + 11 * xn x + 2) : Int) + z.toInt ≤ 9999999)) from by rw [c18]; rfl]
    refine zj_callV3 (n := 46) (a' := 0) (b' := 0) rfl dX10_grant_43 zm_X10_7 (by decide) (by decide) rfl (Nat.le_of_ble_eq_true rfl) (Nat.le_of_ble_eq_true rfl) (Nat.le_of_ble_eq_true rfl) (Nat.le_of_ble_eq_true rfl) (jX10_passes3Q ?_)
    intro M1 hQ1 hF1 hL1 h118 ht1
    have hA1 := hQ1.ra hA
    have hd1 := hQ1.td hd
    refine zj_ifB_ne (n := 49) (tgt := 51) rfl dX10_grant_46 (by decide) (fun c46 => absurd c46 (by rw [c18]; simp)) (fun c46 => ?_)
    refine zj_iconstN_0 (n := 50) rfl dX10_grant_49 ?_
    refine zj_ireturn dX10_grant_50 rfl rfl ?_
    simp only [a_grant, skeep, c18, if_false, Bool.false_eq_true, if_neg (show ¬ (1 : Nat) = 0 by decide)] at h
    exact h M1 (zMm.ofQ hQ1) (by rw [ht1, c18]; rfl) hA1 (hU.ofQ hQ1)
  · obtain ⟨n, hn, rfl⟩ := (zin_iff (by omega)).mp c18
    have hp2 : v (202 + 11 * n + 2) ≤ 9999999 := (hW.ten hn).2.2.1
    refine zj_aload0 (n := 22) rfl dX10_grant_21 ?_
    refine zj_iload1 (n := 23) rfl dX10_grant_22 ?_
    refine zj_iconstN_2 (n := 24) rfl dX10_grant_23 ?_
    refine zj_callV2 (n := 27) (a' := 0) (b' := 0) rfl dX10_grant_24 zm_X10_167 (by decide) (by decide) rfl (Nat.le_of_ble_eq_true rfl) (Nat.le_of_ble_eq_true rfl) (Nat.le_of_ble_eq_true rfl) (Nat.le_of_ble_eq_true rfl) (jX10_tenantValue (c := 2) hA (by omega) ?_)
    refine zj_i2lN (n := 28) rfl dX10_grant_27 (by omega) ?_
    refine zj_iload2 (n := 29) rfl dX10_grant_28 ?_
    refine zj_i2l (n := 30) rfl dX10_grant_29 ?_
    refine zj_ladd (n := 31) rfl dX10_grant_30 ?_
    refine zj_ldc2N (v := 9999999) (n := 34) rfl dX10_grant_31 zc_X10_440 ?_
    refine zj_lcmp (n := 35) rfl dX10_grant_34 ?_
    refine zj_if_gt (n := 38) (tgt := 42) rfl dX10_grant_35 (by decide) (fun c35 => ?_) (fun c35 => ?_)
    · have hdd : decide ((v (202 + 11 * xn (nI n) + 2) : Int) + z.toInt ≤ 9999999) = false := by rw [xn_at (show n < 2 ^ 31 by omega)]; exact decide_eq_false (fun q => absurd c35 ((zi64t (by omega)).mpr q))
      refine zj_iconstN_0 (n := 43) rfl dX10_grant_42 ?_
      rw [show nI 0 = zb (!zin (nI n) (v 7) || decide ((v (202 + 11 * xn (nI n) + 2) : Int) + z.toInt ≤ 9999999)) from by rw [c18, hdd]; rfl]
      refine zj_callV3 (n := 46) (a' := 0) (b' := 0) rfl dX10_grant_43 zm_X10_7 (by decide) (by decide) rfl (Nat.le_of_ble_eq_true rfl) (Nat.le_of_ble_eq_true rfl) (Nat.le_of_ble_eq_true rfl) (Nat.le_of_ble_eq_true rfl) (jX10_passes3Q ?_)
      intro M1 hQ1 hF1 hL1 h118 ht1
      have hA1 := hQ1.ra hA
      have hd1 := hQ1.td hd
      refine zj_ifB_ne (n := 49) (tgt := 51) rfl dX10_grant_46 (by decide) (fun c46 => absurd c46 (by rw [c18, hdd]; simp)) (fun c46 => ?_)
      refine zj_iconstN_0 (n := 50) rfl dX10_grant_49 ?_
      refine zj_ireturn dX10_grant_50 rfl rfl ?_
      cases d2 : zin2 z 1 999999 with
      | false =>
        simp only [a_grant, skeep, c18, d2, if_true, if_false, Bool.false_eq_true, if_neg (show ¬ (2 : Nat) = 0 by decide)] at h
        exact h M1 (zMm.ofQ hQ1) (by rw [ht1, c18, d2]; rfl) hA1 (hU.ofQ hQ1)
      | true =>
        obtain ⟨k, hk1, hk2, rfl⟩ := (zin2_iff (by decide) (by decide)).mp d2
        have d3 : ¬ v (202 + 11 * n + 2) + k ≤ 9999999 := fun q => by
          have := of_decide_eq_false hdd
          rw [xn_at (show n < 2 ^ 31 by omega), nI_toInt (by omega)] at this
          omega
        simp only [a_grant, skeep, c18, d2, xn_at (show n < 2 ^ 31 by omega), xn_at (show k < 2 ^ 31 by omega), if_true, if_neg d3, if_neg (show ¬ (3 : Nat) = 0 by decide)] at h
        exact h M1 (zMm.ofQ hQ1) (by rw [ht1, c18, d2, hdd]; rfl) hA1 (hU.ofQ hQ1)
    · have hdd : decide ((v (202 + 11 * xn (nI n) + 2) : Int) + z.toInt ≤ 9999999) = true := by rw [xn_at (show n < 2 ^ 31 by omega)]; exact decide_eq_true ((zi64t (by omega)).mp c35)
      refine zj_iconstN_1 (n := 39) rfl dX10_grant_38 ?_
      refine zj_goto (tgt := 43) dX10_grant_39 (by decide) ?_
      rw [show nI 1 = zb (!zin (nI n) (v 7) || decide ((v (202 + 11 * xn (nI n) + 2) : Int) + z.toInt ≤ 9999999)) from by rw [c18, hdd]; rfl]
      refine zj_callV3 (n := 46) (a' := 0) (b' := 0) rfl dX10_grant_43 zm_X10_7 (by decide) (by decide) rfl (Nat.le_of_ble_eq_true rfl) (Nat.le_of_ble_eq_true rfl) (Nat.le_of_ble_eq_true rfl) (Nat.le_of_ble_eq_true rfl) (jX10_passes3Q ?_)
      intro M1 hQ1 hF1 hL1 h118 ht1
      have hA1 := hQ1.ra hA
      have hd1 := hQ1.td hd
      refine zj_ifB_ne (n := 49) (tgt := 51) rfl dX10_grant_46 (by decide) (fun c46 => ?_) (fun c46 => ?_)
      · have d2 : zin2 z 1 999999 = true := by rw [c18, hdd] at c46; simpa using c46
        obtain ⟨k, hk1, hk2, rfl⟩ := (zin2_iff (by decide) (by decide)).mp d2
        refine zj_aload0 (n := 52) rfl dX10_grant_51 ?_
        refine zj_iload1 (n := 53) rfl dX10_grant_52 ?_
        refine zj_iconstN_2 (n := 54) rfl dX10_grant_53 ?_
        refine zj_callV2 (n := 57) (a' := 0) (b' := 0) rfl dX10_grant_54 zm_X10_167 (by decide) (by decide) rfl (Nat.le_of_ble_eq_true rfl) (Nat.le_of_ble_eq_true rfl) (Nat.le_of_ble_eq_true rfl) (Nat.le_of_ble_eq_true rfl) (jX10_tenantValue (c := 2) hA1 (by omega) ?_)
        refine zj_iload2 (n := 58) rfl dX10_grant_57 ?_
        refine zj_iaddN (n := 59) rfl dX10_grant_58 ?_
        refine zj_istore4 (n := 61) rfl dX10_grant_59 rfl (Nat.le_of_ble_eq_true rfl) ?_
        refine zj_aload0 (n := 62) rfl dX10_grant_61 ?_
        refine zj_sipushN (v := 202) (n := 65) rfl dX10_grant_62 (by decide) ?_
        refine zj_bipushN (v := 11) (n := 67) rfl dX10_grant_65 (by decide) ?_
        refine zj_iload1 (n := 68) rfl dX10_grant_67 ?_
        refine zj_imulN (n := 69) rfl dX10_grant_68 ?_
        refine zj_iaddN (n := 70) rfl dX10_grant_69 ?_
        refine zj_iconstN_2 (n := 71) rfl dX10_grant_70 ?_
        refine zj_iaddN (n := 72) rfl dX10_grant_71 ?_
        refine zj_iload4 (n := 74) rfl dX10_grant_72 ?_
        refine zj_callV2 (n := 77) (a' := 0) (b' := 0) rfl dX10_grant_74 zm_X10_433 (by decide) (by decide) rfl (Nat.le_of_ble_eq_true rfl) (Nat.le_of_ble_eq_true rfl) (Nat.le_of_ble_eq_true rfl) (Nat.le_of_ble_eq_true rfl) (jX10_set hA1 (hU.ofQ hQ1) (by omega) ?_)
        intro M2 hm2 hA2 hU2 ht2
        have hm3 := (zMm.ofQ hQ1).tr hm2
        refine zj_pop (n := 78) rfl dX10_grant_77 ?_
        refine zj_iload4 (n := 80) rfl dX10_grant_78 ?_
        refine zj_ireturn dX10_grant_80 rfl rfl ?_
        have d3 : v (202 + 11 * n + 2) + k ≤ 9999999 := by
          have := of_decide_eq_true hdd
          rw [xn_at (show n < 2 ^ 31 by omega), nI_toInt (by omega)] at this
          omega
        simp only [a_grant, skeep, c18, d2, xn_at (show n < 2 ^ 31 by omega), xn_at (show k < 2 ^ 31 by omega), if_true, if_pos d3] at h
        exact h M2 hm3 (by rw [ht2, ht1, c18, d2, hdd]; rfl) hA2 hU2
      · refine zj_iconstN_0 (n := 50) rfl dX10_grant_49 ?_
        refine zj_ireturn dX10_grant_50 rfl rfl ?_
        cases d2 : zin2 z 1 999999 with
        | false =>
          simp only [a_grant, skeep, c18, d2, if_true, if_false, Bool.false_eq_true, if_neg (show ¬ (2 : Nat) = 0 by decide)] at h
          exact h M1 (zMm.ofQ hQ1) (by rw [ht1, c18, d2]; rfl) hA1 (hU.ofQ hQ1)
        | true =>
          rw [c18, d2, hdd] at c46
          simp at c46
