/-! THE MODEL's changes, more -/
def skeep (c : Nat) (v' v : zV) (un : Nat) (uv : Nat → zV) : zV × Nat × (Nat → zV) := if c = 0 then (v', vkN un, vkU un uv v) else (v, un, uv)
def vst (v : zV) (n x : Nat) : zV := vset (vset v (10 + 12 * n + 4) x) (10 + 12 * n + 5) (v 5)
theorem vst_wf {v : zV} (hW : zWF v) {n x : Nat} (hn : n < v 6) (hx : x ≤ 2) : zWF (vst v n x) := (hW.setN (d := 4) hn (by omega)).setN (d := 5) (by rw [vset_off (by omega)]; exact hn) (by omega)
def a_fail (v : zV) (x : Int32) : zA := if zin x (v 6) then (if v (10 + 12 * xn x + 4) = 1 then (2, nI 0) else (0, nI (zMask (v 8) (fun g => vlost (vst v (xn x) 1) 0 g && !vlost v 0 g)))) else (1, nI 0)
def a_recover (v : zV) (x : Int32) : zA := if zin x (v 6) then (if v (10 + 12 * xn x + 4) = 1 then (0, nI (zMask (v 8) (fun g => vlost v 0 g && !vlost (vst v (xn x) 0) 0 g))) else (2, nI 0)) else (1, nI 0)
def a_drain (v : zV) (x : Int32) (b : Bool) : zA := if zin x (v 6) then (if v (10 + 12 * xn x + 4) = (if b then 0 else 2) then (0, nI (vcnt v (v 8) (xn x))) else (2, nI 0)) else (1, nI 0)
def a_round (v : zV) : zA := (0, nI (vsold v))
def a_rounds (v : zV) (x : Int32) : zA := if zin2 x 1 100 then (0, nI (vsum (fun k => vrepd (vrs v k)) (xn x))) else (1, nI 0)
def a_setRisk (v : zV) (x y : Int32) : zA := if zin x (v 6) then (if zin y 1000 then (0, nI (v (10 + 12 * xn x + 2))) else (2, nI 0)) else (1, nI 0)
def a_setBandwidth (v : zV) (x : Int32) : zA := if zin2 x 1 99999 then (0, nI (v 0)) else (1, nI 0)
def a_setRule (v : zV) (x : Int32) : zA := if zin x 3 then (0, nI (v 3)) else (1, nI 0)
def a_grant (v : zV) (x y : Int32) : zA := if zin x (v 7) then (if zin2 y 1 999999 then (if v (202 + 11 * xn x + 2) + xn y ≤ 9999999 then (0, nI (v (202 + 11 * xn x + 2) + xn y)) else (3, nI 0)) else (2, nI 0)) else (1, nI 0)
def vcanm (v : zV) (g s n : Nat) : Bool := vav v 0 g s && (v (10 + 12 * n + 4) == 0) && !vhas v g (vsh v g) n && decide (vcnt v (v 8) n < v (10 + 12 * n + 3))
def a_move (v : zV) (x y z : Int32) : zA := if zin x (v 8) && zin z (v 6) && zin y (vsh v (xn x)) then (if vcanm v (xn x) (xn y) (xn z) then (0, nI (hol v (xn x) (xn y))) else (2, nI 0)) else (1, nI 0)
theorem zMm.rem {M M1 M2 : zM} (h : zMm M M1) (a1 : ∀ a, a ≠ 128 → a ≠ 118 → M2.1 a = M1.1 a) (a2 : ∀ j, j ≠ 27 → M2.1 118 j = M1.1 118 j) (a3 : M2.2 = M1.2) : zMm M M2 := h.tr ⟨fun a j hj => by
  by_cases e : a = 118
  · subst e
    exact a2 j (fun q => by subst q; cases hj)
  · rw [a1 a (fun q => by subst q; simp [zMmI] at hj) e], fun c j _ _ => by rw [a3], by rw [a3]⟩
theorem zRA.rem {M1 M2 : zM} {v : zV} (hA : zRA M1 119 v) (a1 : ∀ a, a ≠ 128 → a ≠ 118 → M2.1 a = M1.1 a) (a3 : M2.2 = M1.2) : zRA M2 119 v := ⟨by rw [a3]; exact hA.1, hA.2.1, fun j hj => by rw [a1 119 (by decide) (by decide)]; exact hA.2.2 j hj⟩
theorem zMu.row {M : zM} {un : Nat} {uv : Nat → zV} {j : Nat} {x : Int32} (h : zMu M un uv) : zMu (zU M.1 119 j x, M.2) un uv := h.q (by dsimp only; exact zU_ne (by decide)) (by dsimp only; exact zU_off (by decide))
theorem jX10_become {v : zV} {n x : Nat} {Q : Option Value → zM → Prop} {X : String → zM → Prop} {M : zM} (hA : zRA M 119 v) (hn : n < 16) (h : ∀ M', (∀ a, a ≠ 119 → M'.1 a = M.1 a) → M'.2 = M.2 → zRA M' 119 (vst v n x) → Q none M') : zJ yX10_become cX10_become 3 none rX10_become Q X rX10_become.cells rX10_become.slots 0 (zEnt 3 [.ref 118, .int (nI n), .int (nI x)]) [] M := by
  show zJ yX10_become cX10_become 3 none rX10_become Q X 0 0 0 [some (.ref 118), some (.int (nI n)), some (.int (nI x))] [] M
  refine zj_aload0 (n := 1) rfl dX10_become_0 ?_
  refine zj_getr (n := 4) (q := 119) rfl dX10_become_1 zf_X10_17 rfl (by decide) (by decide) rfl ?_
  refine zj_bipushN (v := 10) (n := 6) rfl dX10_become_4 (by decide) ?_
  refine zj_bipushN (v := 12) (n := 8) rfl dX10_become_6 (by decide) ?_
  refine zj_iload1 (n := 9) rfl dX10_become_8 ?_
  refine zj_imulN (n := 10) rfl dX10_become_9 ?_
  refine zj_iaddN (n := 11) rfl dX10_become_10 ?_
  refine zj_iconstN_4 (n := 12) rfl dX10_become_11 ?_
  refine zj_iaddN (n := 13) rfl dX10_become_12 ?_
  refine zj_iload2 (n := 14) rfl dX10_become_13 ?_
  refine zj_iastoreN (n := 15) rfl dX10_become_14 (by decide) (by decide) (by rw [show zLen 119 = 698 from rfl]; omega) ?_
  refine zj_aload0 (n := 16) rfl dX10_become_15 ?_
  refine zj_getr (n := 19) (q := 119) rfl dX10_become_16 zf_X10_17 rfl (by decide) (by decide) rfl ?_
  refine zj_bipushN (v := 10) (n := 21) rfl dX10_become_19 (by decide) ?_
  refine zj_bipushN (v := 12) (n := 23) rfl dX10_become_21 (by decide) ?_
  refine zj_iload1 (n := 24) rfl dX10_become_23 ?_
  refine zj_imulN (n := 25) rfl dX10_become_24 ?_
  refine zj_iaddN (n := 26) rfl dX10_become_25 ?_
  refine zj_iconstN_5 (n := 27) rfl dX10_become_26 ?_
  refine zj_iaddN (n := 28) rfl dX10_become_27 ?_
  refine zj_aload0 (n := 29) rfl dX10_become_28 ?_
  refine zj_getr (n := 32) (q := 119) rfl dX10_become_29 zf_X10_17 rfl (by decide) (by decide) rfl ?_
  refine zj_iconstN_5 (n := 33) rfl dX10_become_32 ?_
  refine zj_ialoadN (e := v 5) (n := 34) rfl dX10_become_33 (by decide) (by decide) (by rw [show zLen 119 = 698 from rfl]; omega) (by dsimp only; rw [zU_nj (by omega)]; exact hA.2.2 5 (by decide)) ?_
  refine zj_iastoreN (n := 35) rfl dX10_become_34 (by decide) (by decide) (by rw [show zLen 119 = 698 from rfl]; omega) ?_
  exact zj_return dX10_become_35 rfl (h _ (fun a ha => by dsimp only; rw [zU_off ha, zU_off ha]) rfl ((hA.set (j := 10 + 12 * n + 4)).set))
theorem jX10_isDownNode {v : zV} {x : Int32} {Q : Option Value → zM → Prop} {X : String → zM → Prop} {M : zM} (hA : zRA M 119 v) (hW : zWF v) (hd : M.1 118 4 = nI 0) (h : Q (some (.int (zb (zin x (v 6) && (v (10 + 12 * xn x + 4) == 1))))) M) : zJ yX10_isDownNode cX10_isDownNode 2 (some .boolean) rX10_isDownNode Q X rX10_isDownNode.cells rX10_isDownNode.slots 0 (zEnt 2 [.ref 118, .int x]) [] M := by
  have h6 := hW.nN
  have h7 := hW.tN
  have h8 := hW.gN
  have h9 := hW.hN
  show zJ yX10_isDownNode cX10_isDownNode 2 (some .boolean) rX10_isDownNode Q X 0 0 0 [some (.ref 118), some (.int x)] [] M
  refine zj_aload0 (n := 1) rfl dX10_isDownNode_0 ?_
  refine zj_iload1 (n := 2) rfl dX10_isDownNode_1 ?_
  refine zj_callV1 (n := 5) (a' := 0) (b' := 0) rfl dX10_isDownNode_2 zm_X10_390 (by decide) (by decide) rfl (Nat.le_of_ble_eq_true rfl) (Nat.le_of_ble_eq_true rfl) (Nat.le_of_ble_eq_true rfl) (Nat.le_of_ble_eq_true rfl) (jX10_isNode hA (by omega) ?_)
  refine zj_ifB_eq (n := 8) (tgt := 22) rfl dX10_isDownNode_5 (by decide) (fun c5 => ?_) (fun c5 => ?_)
  · refine zj_iconstN_0 (n := 23) rfl dX10_isDownNode_22 ?_
    exact zj_ireturn dX10_isDownNode_23 rfl rfl (zQi h (by rw [c5, Bool.false_and]; rfl))
  · obtain ⟨n, hn, rfl⟩ := (zin_iff (by omega)).mp c5
    have hn4 : v (10 + 12 * n + 4) ≤ 2 := (hW.node hn).2.2.2.2
    refine zj_aload0 (n := 9) rfl dX10_isDownNode_8 ?_
    refine zj_iload1 (n := 10) rfl dX10_isDownNode_9 ?_
    refine zj_iconstN_4 (n := 11) rfl dX10_isDownNode_10 ?_
    refine zj_callV2 (n := 14) (a' := 0) (b' := 0) rfl dX10_isDownNode_11 zm_X10_77 (by decide) (by decide) rfl (Nat.le_of_ble_eq_true rfl) (Nat.le_of_ble_eq_true rfl) (Nat.le_of_ble_eq_true rfl) (Nat.le_of_ble_eq_true rfl) (jX10_nodeValue (c := 4) hA (by omega) ?_)
    refine zj_iconstN_1 (n := 15) rfl dX10_isDownNode_14 ?_
    refine zj_icmpN_ne (n := 18) (tgt := 22) rfl dX10_isDownNode_15 (by decide) (by omega) (by omega) (fun c15 => ?_) (fun c15 => ?_)
    · refine zj_iconstN_0 (n := 23) rfl dX10_isDownNode_22 ?_
      exact zj_ireturn dX10_isDownNode_23 rfl rfl (zQi h (by rw [c5, xn_at (show n < 2 ^ 31 by omega), show (v (10 + 12 * n + 4) == 1) = false from beq_false_of_ne c15]; rfl))
    · refine zj_iconstN_1 (n := 19) rfl dX10_isDownNode_18 ?_
      refine zj_goto (tgt := 23) dX10_isDownNode_19 (by decide) ?_
      exact zj_ireturn dX10_isDownNode_23 rfl rfl (zQi h (by rw [c5, xn_at (show n < 2 ^ 31 by omega), c15]; rfl))
theorem jX10_fail {v : zV} {x : Int32} {un : Nat} {uv : Nat → zV} {Q : Option Value → zM → Prop} {X : String → zM → Prop} {M : zM} (hA : zRA M 119 v) (hW : zWF v) (hd : M.1 118 4 = nI 0) (hU : zMu M un uv) (h : ∀ M', zMm M M' → M'.1 118 0 = nI (a_fail v x).1 → zRA M' 119 (skeep (a_fail v x).1 (vst v (xn x) 1) v un uv).1 → zMu M' (skeep (a_fail v x).1 (vst v (xn x) 1) v un uv).2.1 (skeep (a_fail v x).1 (vst v (xn x) 1) v un uv).2.2 → Q (some (.int (a_fail v x).2)) M') : zJ yX10_fail cX10_fail 3 (some .int) rX10_fail Q X rX10_fail.cells rX10_fail.slots 0 (zEnt 3 [.ref 118, .int x]) [] M := by
  have h6 := hW.nN
  have h7 := hW.tN
  have h8 := hW.gN
  have h9 := hW.hN
  show zJ yX10_fail cX10_fail 3 (some .int) rX10_fail Q X 0 0 0 [some (.ref 118), some (.int x), none] [] M
  refine zj_aload0 (n := 1) rfl dX10_fail_0 ?_
  refine zj_aload0 (n := 2) rfl dX10_fail_1 ?_
  refine zj_iload1 (n := 3) rfl dX10_fail_2 ?_
  refine zj_callV1 (n := 6) (a' := 0) (b' := 0) rfl dX10_fail_3 zm_X10_390 (by decide) (by decide) rfl (Nat.le_of_ble_eq_true rfl) (Nat.le_of_ble_eq_true rfl) (Nat.le_of_ble_eq_true rfl) (Nat.le_of_ble_eq_true rfl) (jX10_isNode hA (by omega) ?_)
  refine zj_aload0 (n := 7) rfl dX10_fail_6 ?_
  refine zj_iload1 (n := 8) rfl dX10_fail_7 ?_
  refine zj_callV1 (n := 11) (a' := 0) (b' := 0) rfl dX10_fail_8 zm_X10_420 (by decide) (by decide) rfl (Nat.le_of_ble_eq_true rfl) (Nat.le_of_ble_eq_true rfl) (Nat.le_of_ble_eq_true rfl) (Nat.le_of_ble_eq_true rfl) (jX10_isDownNode hA hW hd ?_)
  refine zj_ifB_ne (n := 14) (tgt := 18) rfl dX10_fail_11 (by decide) (fun c11 => ?_) (fun c11 => ?_)
  · refine zj_iconstN_0 (n := 19) rfl dX10_fail_18 ?_
    rw [show nI 0 = zb (!(zin x (v 6) && (v (10 + 12 * xn x + 4) == 1))) from by rw [c11]; rfl]
    refine zj_callV2 (n := 22) (a' := 0) (b' := 0) rfl dX10_fail_19 zm_X10_395 (by decide) (by decide) rfl (Nat.le_of_ble_eq_true rfl) (Nat.le_of_ble_eq_true rfl) (Nat.le_of_ble_eq_true rfl) (Nat.le_of_ble_eq_true rfl) (jX10_passes2Q (q := !(zin x (v 6) && (v (10 + 12 * xn x + 4) == 1))) ?_)
    intro M1 hQ1 hF1 hL1 h118 ht1
    have hA1 := hQ1.ra hA
    have hd1 := hQ1.td hd
    refine zj_ifB_ne (n := 25) (tgt := 27) rfl dX10_fail_22 (by decide) (fun c22 => ?_) (fun c22 => ?_)
    · obtain ⟨d1, d2⟩ := (Bool.and_eq_true _ _).mp c22
      obtain ⟨n, hn, rfl⟩ := (zin_iff (by omega)).mp d1
      refine zj_aload0 (n := 28) rfl dX10_fail_27 ?_
      refine zj_callV0 (n := 31) (a' := 0) (b' := 0) rfl dX10_fail_28 zm_X10_382 (by decide) (by decide) rfl (Nat.le_of_ble_eq_true rfl) (Nat.le_of_ble_eq_true rfl) (Nat.le_of_ble_eq_true rfl) (Nat.le_of_ble_eq_true rfl) (jX10_remember hA1 (hU.ofQ hQ1) ?_)
      intro M2 a21 a22 a23 hU2
      have hA2 := hA1.rem a21 a23
      have hm2 := (zMm.ofQ hQ1).rem a21 a22 a23
      have ht2 : M2.1 118 0 = M1.1 118 0 := a22 0 (by decide)
      have hd2 := hm2.td hd
      refine zj_aload0 (n := 32) rfl dX10_fail_31 ?_
      refine zj_callV0 (n := 35) (a' := 0) (b' := 0) rfl dX10_fail_32 zm_X10_411 (by decide) (by decide) rfl (Nat.le_of_ble_eq_true rfl) (Nat.le_of_ble_eq_true rfl) (Nat.le_of_ble_eq_true rfl) (Nat.le_of_ble_eq_true rfl) (jX10_lostSet hA2 hW hd2 (by decide) ?_)
      refine zj_istore2 (n := 36) rfl dX10_fail_35 rfl (Nat.le_of_ble_eq_true rfl) ?_
      refine zj_aload0 (n := 37) rfl dX10_fail_36 ?_
      refine zj_iload1 (n := 38) rfl dX10_fail_37 ?_
      refine zj_iconstN_1 (n := 39) rfl dX10_fail_38 ?_
      refine zj_callV2 (n := 42) (a' := 0) (b' := 0) rfl dX10_fail_39 zm_X10_423 (by decide) (by decide) rfl (Nat.le_of_ble_eq_true rfl) (Nat.le_of_ble_eq_true rfl) (Nat.le_of_ble_eq_true rfl) (Nat.le_of_ble_eq_true rfl) (jX10_become hA2 (by omega) ?_)
      intro M3 a31 a32 hA3
      have hm3 : zMm M M3 := hm2.tr ⟨fun a j hj => by rw [a31 a (fun q => by subst q; simp [zMmI] at hj)], fun c j _ _ => by rw [a32], by rw [a32]⟩
      have hU3 := hU2.q (by rw [a31 118 (by decide)]) (a31 128 (by decide))
      have ht3 : M3.1 118 0 = M1.1 118 0 := (by rw [a31 118 (by decide)]; exact ht2)
      have hd3 := hm3.td hd
      refine zj_aload0 (n := 43) rfl dX10_fail_42 ?_
      refine zj_callV0 (n := 46) (a' := 0) (b' := 0) rfl dX10_fail_43 zm_X10_411 (by decide) (by decide) rfl (Nat.le_of_ble_eq_true rfl) (Nat.le_of_ble_eq_true rfl) (Nat.le_of_ble_eq_true rfl) (Nat.le_of_ble_eq_true rfl) (jX10_lostSet hA3 (vst_wf hW hn (by decide)) hd3 (by decide) ?_)
      refine zj_iload2 (n := 47) rfl dX10_fail_46 ?_
      refine zj_iconst_m1 (n := 48) rfl dX10_fail_47 ?_
      refine zj_ixor (n := 49) rfl dX10_fail_48 ?_
      refine zj_iand (n := 50) rfl dX10_fail_49 ?_
      refine zj_ireturn dX10_fail_50 rfl rfl ?_
      have d4 : ¬ v (10 + 12 * n + 4) = 1 := by
        rw [d1, Bool.true_and] at d2
        simpa [xn_at (show n < 2 ^ 31 by omega)] using d2
      simp only [a_fail, skeep, d1, xn_at (show n < 2 ^ 31 by omega), if_true, if_neg d4] at h
      refine zQi (h M3 hm3 (by rw [ht3, ht1, d2, d1]; rfl) hA3 hU3) ?_
      have e8 : vst v n 1 8 = v 8 := by unfold vst; rw [vset_off (by omega), vset_off (by omega)]
      rw [e8, zMask_diff]
    · refine zj_iconstN_0 (n := 26) rfl dX10_fail_25 ?_
      refine zj_ireturn dX10_fail_26 rfl rfl ?_
      cases d1 : zin x (v 6) with
      | false =>
        simp only [a_fail, skeep, d1, if_false, Bool.false_eq_true, if_neg (show ¬ (1 : Nat) = 0 by decide)] at h
        exact h M1 (zMm.ofQ hQ1) (by rw [ht1, d1]; rfl) hA1 (hU.ofQ hQ1)
      | true =>
        rw [d1, Bool.true_and, Bool.true_and] at c22
        have d2 : (v (10 + 12 * xn x + 4) == 1) = true := by simpa using c22
        have d3 : v (10 + 12 * xn x + 4) = 1 := by simpa using d2
        simp only [a_fail, skeep, d1, d3, if_true, if_neg (show ¬ (2 : Nat) = 0 by decide)] at h
        exact h M1 (zMm.ofQ hQ1) (by rw [ht1, d1, d2]; rfl) hA1 (hU.ofQ hQ1)
  · refine zj_iconstN_1 (n := 15) rfl dX10_fail_14 ?_
    refine zj_goto (tgt := 19) dX10_fail_15 (by decide) ?_
    rw [show nI 1 = zb (!(zin x (v 6) && (v (10 + 12 * xn x + 4) == 1))) from by rw [c11]; rfl]
    refine zj_callV2 (n := 22) (a' := 0) (b' := 0) rfl dX10_fail_19 zm_X10_395 (by decide) (by decide) rfl (Nat.le_of_ble_eq_true rfl) (Nat.le_of_ble_eq_true rfl) (Nat.le_of_ble_eq_true rfl) (Nat.le_of_ble_eq_true rfl) (jX10_passes2Q (q := !(zin x (v 6) && (v (10 + 12 * xn x + 4) == 1))) ?_)
    intro M1 hQ1 hF1 hL1 h118 ht1
    have hA1 := hQ1.ra hA
    have hd1 := hQ1.td hd
    refine zj_ifB_ne (n := 25) (tgt := 27) rfl dX10_fail_22 (by decide) (fun c22 => ?_) (fun c22 => ?_)
    · obtain ⟨d1, d2⟩ := (Bool.and_eq_true _ _).mp c22
      obtain ⟨n, hn, rfl⟩ := (zin_iff (by omega)).mp d1
      refine zj_aload0 (n := 28) rfl dX10_fail_27 ?_
      refine zj_callV0 (n := 31) (a' := 0) (b' := 0) rfl dX10_fail_28 zm_X10_382 (by decide) (by decide) rfl (Nat.le_of_ble_eq_true rfl) (Nat.le_of_ble_eq_true rfl) (Nat.le_of_ble_eq_true rfl) (Nat.le_of_ble_eq_true rfl) (jX10_remember hA1 (hU.ofQ hQ1) ?_)
      intro M2 a21 a22 a23 hU2
      have hA2 := hA1.rem a21 a23
      have hm2 := (zMm.ofQ hQ1).rem a21 a22 a23
      have ht2 : M2.1 118 0 = M1.1 118 0 := a22 0 (by decide)
      have hd2 := hm2.td hd
      refine zj_aload0 (n := 32) rfl dX10_fail_31 ?_
      refine zj_callV0 (n := 35) (a' := 0) (b' := 0) rfl dX10_fail_32 zm_X10_411 (by decide) (by decide) rfl (Nat.le_of_ble_eq_true rfl) (Nat.le_of_ble_eq_true rfl) (Nat.le_of_ble_eq_true rfl) (Nat.le_of_ble_eq_true rfl) (jX10_lostSet hA2 hW hd2 (by decide) ?_)
      refine zj_istore2 (n := 36) rfl dX10_fail_35 rfl (Nat.le_of_ble_eq_true rfl) ?_
      refine zj_aload0 (n := 37) rfl dX10_fail_36 ?_
      refine zj_iload1 (n := 38) rfl dX10_fail_37 ?_
      refine zj_iconstN_1 (n := 39) rfl dX10_fail_38 ?_
      refine zj_callV2 (n := 42) (a' := 0) (b' := 0) rfl dX10_fail_39 zm_X10_423 (by decide) (by decide) rfl (Nat.le_of_ble_eq_true rfl) (Nat.le_of_ble_eq_true rfl) (Nat.le_of_ble_eq_true rfl) (Nat.le_of_ble_eq_true rfl) (jX10_become hA2 (by omega) ?_)
      intro M3 a31 a32 hA3
      have hm3 : zMm M M3 := hm2.tr ⟨fun a j hj => by rw [a31 a (fun q => by subst q; simp [zMmI] at hj)], fun c j _ _ => by rw [a32], by rw [a32]⟩
      have hU3 := hU2.q (by rw [a31 118 (by decide)]) (a31 128 (by decide))
      have ht3 : M3.1 118 0 = M1.1 118 0 := (by rw [a31 118 (by decide)]; exact ht2)
      have hd3 := hm3.td hd
      refine zj_aload0 (n := 43) rfl dX10_fail_42 ?_
      refine zj_callV0 (n := 46) (a' := 0) (b' := 0) rfl dX10_fail_43 zm_X10_411 (by decide) (by decide) rfl (Nat.le_of_ble_eq_true rfl) (Nat.le_of_ble_eq_true rfl) (Nat.le_of_ble_eq_true rfl) (Nat.le_of_ble_eq_true rfl) (jX10_lostSet hA3 (vst_wf hW hn (by decide)) hd3 (by decide) ?_)
      refine zj_iload2 (n := 47) rfl dX10_fail_46 ?_
      refine zj_iconst_m1 (n := 48) rfl dX10_fail_47 ?_
      refine zj_ixor (n := 49) rfl dX10_fail_48 ?_
      refine zj_iand (n := 50) rfl dX10_fail_49 ?_
      refine zj_ireturn dX10_fail_50 rfl rfl ?_
      have d4 : ¬ v (10 + 12 * n + 4) = 1 := by
        rw [d1, Bool.true_and] at d2
        simpa [xn_at (show n < 2 ^ 31 by omega)] using d2
      simp only [a_fail, skeep, d1, xn_at (show n < 2 ^ 31 by omega), if_true, if_neg d4] at h
      refine zQi (h M3 hm3 (by rw [ht3, ht1, d2, d1]; rfl) hA3 hU3) ?_
      have e8 : vst v n 1 8 = v 8 := by unfold vst; rw [vset_off (by omega), vset_off (by omega)]
      rw [e8, zMask_diff]
    · refine zj_iconstN_0 (n := 26) rfl dX10_fail_25 ?_
      refine zj_ireturn dX10_fail_26 rfl rfl ?_
      cases d1 : zin x (v 6) with
      | false =>
        simp only [a_fail, skeep, d1, if_false, Bool.false_eq_true, if_neg (show ¬ (1 : Nat) = 0 by decide)] at h
        exact h M1 (zMm.ofQ hQ1) (by rw [ht1, d1]; rfl) hA1 (hU.ofQ hQ1)
      | true =>
        rw [d1, Bool.true_and, Bool.true_and] at c22
        have d2 : (v (10 + 12 * xn x + 4) == 1) = true := by simpa using c22
        have d3 : v (10 + 12 * xn x + 4) = 1 := by simpa using d2
        simp only [a_fail, skeep, d1, d3, if_true, if_neg (show ¬ (2 : Nat) = 0 by decide)] at h
        exact h M1 (zMm.ofQ hQ1) (by rw [ht1, d1, d2]; rfl) hA1 (hU.ofQ hQ1)
theorem jX10_recover {v : zV} {x : Int32} {un : Nat} {uv : Nat → zV} {Q : Option Value → zM → Prop} {X : String → zM → Prop} {M : zM} (hA : zRA M 119 v) (hW : zWF v) (hd : M.1 118 4 = nI 0) (hU : zMu M un uv) (h : ∀ M', zMm M M' → M'.1 118 0 = nI (a_recover v x).1 → zRA M' 119 (skeep (a_recover v x).1 (vst v (xn x) 0) v un uv).1 → zMu M' (skeep (a_recover v x).1 (vst v (xn x) 0) v un uv).2.1 (skeep (a_recover v x).1 (vst v (xn x) 0) v un uv).2.2 → Q (some (.int (a_recover v x).2)) M') : zJ yX10_recover cX10_recover 3 (some .int) rX10_recover Q X rX10_recover.cells rX10_recover.slots 0 (zEnt 3 [.ref 118, .int x]) [] M := by
  have h6 := hW.nN
  have h7 := hW.tN
  have h8 := hW.gN
  have h9 := hW.hN
  show zJ yX10_recover cX10_recover 3 (some .int) rX10_recover Q X 0 0 0 [some (.ref 118), some (.int x), none] [] M
  refine zj_aload0 (n := 1) rfl dX10_recover_0 ?_
  refine zj_aload0 (n := 2) rfl dX10_recover_1 ?_
  refine zj_iload1 (n := 3) rfl dX10_recover_2 ?_
  refine zj_callV1 (n := 6) (a' := 0) (b' := 0) rfl dX10_recover_3 zm_X10_390 (by decide) (by decide) rfl (Nat.le_of_ble_eq_true rfl) (Nat.le_of_ble_eq_true rfl) (Nat.le_of_ble_eq_true rfl) (Nat.le_of_ble_eq_true rfl) (jX10_isNode hA (by omega) ?_)
  refine zj_aload0 (n := 7) rfl dX10_recover_6 ?_
  refine zj_iload1 (n := 8) rfl dX10_recover_7 ?_
  refine zj_callV1 (n := 11) (a' := 0) (b' := 0) rfl dX10_recover_8 zm_X10_390 (by decide) (by decide) rfl (Nat.le_of_ble_eq_true rfl) (Nat.le_of_ble_eq_true rfl) (Nat.le_of_ble_eq_true rfl) (Nat.le_of_ble_eq_true rfl) (jX10_isNode hA (by omega) ?_)
  refine zj_ifB_eq (n := 14) (tgt := 22) rfl dX10_recover_11 (by decide) (fun c11 => ?_) (fun c11 => ?_)
  · refine zj_iconstN_1 (n := 23) rfl dX10_recover_22 ?_
    refine zj_goto (tgt := 27) dX10_recover_23 (by decide) ?_
    rw [show nI 1 = zb ((!zin x (v 6) || (zin x (v 6) && (v (10 + 12 * xn x + 4) == 1)))) from by rw [c11]; rfl]
    refine zj_callV2 (n := 30) (a' := 0) (b' := 0) rfl dX10_recover_27 zm_X10_395 (by decide) (by decide) rfl (Nat.le_of_ble_eq_true rfl) (Nat.le_of_ble_eq_true rfl) (Nat.le_of_ble_eq_true rfl) (Nat.le_of_ble_eq_true rfl) (jX10_passes2Q (q := (!zin x (v 6) || (zin x (v 6) && (v (10 + 12 * xn x + 4) == 1)))) ?_)
    intro M1 hQ1 hF1 hL1 h118 ht1
    have hA1 := hQ1.ra hA
    have hd1 := hQ1.td hd
    refine zj_ifB_ne (n := 33) (tgt := 35) rfl dX10_recover_30 (by decide) (fun c30 => ?_) (fun c30 => ?_)
    · obtain ⟨d1, d2⟩ := (Bool.and_eq_true _ _).mp c30
      obtain ⟨n, hn, rfl⟩ := (zin_iff (by omega)).mp d1
      refine zj_aload0 (n := 36) rfl dX10_recover_35 ?_
      refine zj_callV0 (n := 39) (a' := 0) (b' := 0) rfl dX10_recover_36 zm_X10_382 (by decide) (by decide) rfl (Nat.le_of_ble_eq_true rfl) (Nat.le_of_ble_eq_true rfl) (Nat.le_of_ble_eq_true rfl) (Nat.le_of_ble_eq_true rfl) (jX10_remember hA1 (hU.ofQ hQ1) ?_)
      intro M2 a21 a22 a23 hU2
      have hA2 := hA1.rem a21 a23
      have hm2 := (zMm.ofQ hQ1).rem a21 a22 a23
      have ht2 : M2.1 118 0 = M1.1 118 0 := a22 0 (by decide)
      have hd2 := hm2.td hd
      refine zj_aload0 (n := 40) rfl dX10_recover_39 ?_
      refine zj_callV0 (n := 43) (a' := 0) (b' := 0) rfl dX10_recover_40 zm_X10_411 (by decide) (by decide) rfl (Nat.le_of_ble_eq_true rfl) (Nat.le_of_ble_eq_true rfl) (Nat.le_of_ble_eq_true rfl) (Nat.le_of_ble_eq_true rfl) (jX10_lostSet hA2 hW hd2 (by decide) ?_)
      refine zj_istore2 (n := 44) rfl dX10_recover_43 rfl (Nat.le_of_ble_eq_true rfl) ?_
      refine zj_aload0 (n := 45) rfl dX10_recover_44 ?_
      refine zj_iload1 (n := 46) rfl dX10_recover_45 ?_
      refine zj_iconstN_0 (n := 47) rfl dX10_recover_46 ?_
      refine zj_callV2 (n := 50) (a' := 0) (b' := 0) rfl dX10_recover_47 zm_X10_423 (by decide) (by decide) rfl (Nat.le_of_ble_eq_true rfl) (Nat.le_of_ble_eq_true rfl) (Nat.le_of_ble_eq_true rfl) (Nat.le_of_ble_eq_true rfl) (jX10_become hA2 (by omega) ?_)
      intro M3 a31 a32 hA3
      have hm3 : zMm M M3 := hm2.tr ⟨fun a j hj => by rw [a31 a (fun q => by subst q; simp [zMmI] at hj)], fun c j _ _ => by rw [a32], by rw [a32]⟩
      have hU3 := hU2.q (by rw [a31 118 (by decide)]) (a31 128 (by decide))
      have ht3 : M3.1 118 0 = M1.1 118 0 := (by rw [a31 118 (by decide)]; exact ht2)
      have hd3 := hm3.td hd
      refine zj_iload2 (n := 51) rfl dX10_recover_50 ?_
      refine zj_aload0 (n := 52) rfl dX10_recover_51 ?_
      refine zj_callV0 (n := 55) (a' := 0) (b' := 0) rfl dX10_recover_52 zm_X10_411 (by decide) (by decide) rfl (Nat.le_of_ble_eq_true rfl) (Nat.le_of_ble_eq_true rfl) (Nat.le_of_ble_eq_true rfl) (Nat.le_of_ble_eq_true rfl) (jX10_lostSet hA3 (vst_wf hW hn (by decide)) hd3 (by decide) ?_)
      refine zj_iconst_m1 (n := 56) rfl dX10_recover_55 ?_
      refine zj_ixor (n := 57) rfl dX10_recover_56 ?_
      refine zj_iand (n := 58) rfl dX10_recover_57 ?_
      refine zj_ireturn dX10_recover_58 rfl rfl ?_
      have d4 : v (10 + 12 * n + 4) = 1 := by
        rw [d1, Bool.true_and, Bool.not_true, Bool.false_or] at d2
        simpa [xn_at (show n < 2 ^ 31 by omega)] using d2
      simp only [a_recover, skeep, d1, xn_at (show n < 2 ^ 31 by omega), if_true, d4] at h
      refine zQi (h M3 hm3 (by rw [ht3, ht1, d2, d1]; rfl) hA3 hU3) ?_
      have e8 : vst v n 0 8 = v 8 := by unfold vst; rw [vset_off (by omega), vset_off (by omega)]
      rw [e8, zMask_diff]
    · refine zj_iconstN_0 (n := 34) rfl dX10_recover_33 ?_
      refine zj_ireturn dX10_recover_34 rfl rfl ?_
      cases d1 : zin x (v 6) with
      | false =>
        simp only [a_recover, skeep, d1, if_false, Bool.false_eq_true, if_neg (show ¬ (1 : Nat) = 0 by decide)] at h
        exact h M1 (zMm.ofQ hQ1) (by rw [ht1, d1]; rfl) hA1 (hU.ofQ hQ1)
      | true =>
        rw [d1, Bool.true_and, Bool.true_and, Bool.not_true, Bool.false_or] at c30
        have d3 : ¬ v (10 + 12 * xn x + 4) = 1 := by simpa using c30
        simp only [a_recover, skeep, d1, if_true, if_neg d3, if_neg (show ¬ (2 : Nat) = 0 by decide)] at h
        exact h M1 (zMm.ofQ hQ1) (by rw [ht1, d1, Bool.not_true, Bool.false_or, Bool.true_and, c30]; rfl) hA1 (hU.ofQ hQ1)
  · refine zj_aload0 (n := 15) rfl dX10_recover_14 ?_
    refine zj_iload1 (n := 16) rfl dX10_recover_15 ?_
    refine zj_callV1 (n := 19) (a' := 0) (b' := 0) rfl dX10_recover_16 zm_X10_420 (by decide) (by decide) rfl (Nat.le_of_ble_eq_true rfl) (Nat.le_of_ble_eq_true rfl) (Nat.le_of_ble_eq_true rfl) (Nat.le_of_ble_eq_true rfl) (jX10_isDownNode hA hW hd ?_)
    refine zj_ifB_eq (n := 22) (tgt := 26) rfl dX10_recover_19 (by decide) (fun c19 => ?_) (fun c19 => ?_)
    · refine zj_iconstN_0 (n := 27) rfl dX10_recover_26 ?_
      rw [show nI 0 = zb ((!zin x (v 6) || (zin x (v 6) && (v (10 + 12 * xn x + 4) == 1)))) from by rw [c19, c11]; rfl]
      refine zj_callV2 (n := 30) (a' := 0) (b' := 0) rfl dX10_recover_27 zm_X10_395 (by decide) (by decide) rfl (Nat.le_of_ble_eq_true rfl) (Nat.le_of_ble_eq_true rfl) (Nat.le_of_ble_eq_true rfl) (Nat.le_of_ble_eq_true rfl) (jX10_passes2Q (q := (!zin x (v 6) || (zin x (v 6) && (v (10 + 12 * xn x + 4) == 1)))) ?_)
      intro M1 hQ1 hF1 hL1 h118 ht1
      have hA1 := hQ1.ra hA
      have hd1 := hQ1.td hd
      refine zj_ifB_ne (n := 33) (tgt := 35) rfl dX10_recover_30 (by decide) (fun c30 => ?_) (fun c30 => ?_)
      · obtain ⟨d1, d2⟩ := (Bool.and_eq_true _ _).mp c30
        obtain ⟨n, hn, rfl⟩ := (zin_iff (by omega)).mp d1
        refine zj_aload0 (n := 36) rfl dX10_recover_35 ?_
        refine zj_callV0 (n := 39) (a' := 0) (b' := 0) rfl dX10_recover_36 zm_X10_382 (by decide) (by decide) rfl (Nat.le_of_ble_eq_true rfl) (Nat.le_of_ble_eq_true rfl) (Nat.le_of_ble_eq_true rfl) (Nat.le_of_ble_eq_true rfl) (jX10_remember hA1 (hU.ofQ hQ1) ?_)
        intro M2 a21 a22 a23 hU2
        have hA2 := hA1.rem a21 a23
        have hm2 := (zMm.ofQ hQ1).rem a21 a22 a23
        have ht2 : M2.1 118 0 = M1.1 118 0 := a22 0 (by decide)
        have hd2 := hm2.td hd
        refine zj_aload0 (n := 40) rfl dX10_recover_39 ?_
        refine zj_callV0 (n := 43) (a' := 0) (b' := 0) rfl dX10_recover_40 zm_X10_411 (by decide) (by decide) rfl (Nat.le_of_ble_eq_true rfl) (Nat.le_of_ble_eq_true rfl) (Nat.le_of_ble_eq_true rfl) (Nat.le_of_ble_eq_true rfl) (jX10_lostSet hA2 hW hd2 (by decide) ?_)
        refine zj_istore2 (n := 44) rfl dX10_recover_43 rfl (Nat.le_of_ble_eq_true rfl) ?_
        refine zj_aload0 (n := 45) rfl dX10_recover_44 ?_
        refine zj_iload1 (n := 46) rfl dX10_recover_45 ?_
        refine zj_iconstN_0 (n := 47) rfl dX10_recover_46 ?_
        refine zj_callV2 (n := 50) (a' := 0) (b' := 0) rfl dX10_recover_47 zm_X10_423 (by decide) (by decide) rfl (Nat.le_of_ble_eq_true rfl) (Nat.le_of_ble_eq_true rfl) (Nat.le_of_ble_eq_true rfl) (Nat.le_of_ble_eq_true rfl) (jX10_become hA2 (by omega) ?_)
        intro M3 a31 a32 hA3
        have hm3 : zMm M M3 := hm2.tr ⟨fun a j hj => by rw [a31 a (fun q => by subst q; simp [zMmI] at hj)], fun c j _ _ => by rw [a32], by rw [a32]⟩
        have hU3 := hU2.q (by rw [a31 118 (by decide)]) (a31 128 (by decide))
        have ht3 : M3.1 118 0 = M1.1 118 0 := (by rw [a31 118 (by decide)]; exact ht2)
        have hd3 := hm3.td hd
        refine zj_iload2 (n := 51) rfl dX10_recover_50 ?_
        refine zj_aload0 (n := 52) rfl dX10_recover_51 ?_
        refine zj_callV0 (n := 55) (a' := 0) (b' := 0) rfl dX10_recover_52 zm_X10_411 (by decide) (by decide) rfl (Nat.le_of_ble_eq_true rfl) (Nat.le_of_ble_eq_true rfl) (Nat.le_of_ble_eq_true rfl) (Nat.le_of_ble_eq_true rfl) (jX10_lostSet hA3 (vst_wf hW hn (by decide)) hd3 (by decide) ?_)
        refine zj_iconst_m1 (n := 56) rfl dX10_recover_55 ?_
        refine zj_ixor (n := 57) rfl dX10_recover_56 ?_
        refine zj_iand (n := 58) rfl dX10_recover_57 ?_
        refine zj_ireturn dX10_recover_58 rfl rfl ?_
        have d4 : v (10 + 12 * n + 4) = 1 := by
          rw [d1, Bool.true_and, Bool.not_true, Bool.false_or] at d2
          simpa [xn_at (show n < 2 ^ 31 by omega)] using d2
        simp only [a_recover, skeep, d1, xn_at (show n < 2 ^ 31 by omega), if_true, d4] at h
        refine zQi (h M3 hm3 (by rw [ht3, ht1, d2, d1]; rfl) hA3 hU3) ?_
        have e8 : vst v n 0 8 = v 8 := by unfold vst; rw [vset_off (by omega), vset_off (by omega)]
        rw [e8, zMask_diff]
      · refine zj_iconstN_0 (n := 34) rfl dX10_recover_33 ?_
        refine zj_ireturn dX10_recover_34 rfl rfl ?_
        cases d1 : zin x (v 6) with
        | false =>
          simp only [a_recover, skeep, d1, if_false, Bool.false_eq_true, if_neg (show ¬ (1 : Nat) = 0 by decide)] at h
          exact h M1 (zMm.ofQ hQ1) (by rw [ht1, d1]; rfl) hA1 (hU.ofQ hQ1)
        | true =>
          rw [d1, Bool.true_and, Bool.true_and, Bool.not_true, Bool.false_or] at c30
          have d3 : ¬ v (10 + 12 * xn x + 4) = 1 := by simpa using c30
          simp only [a_recover, skeep, d1, if_true, if_neg d3, if_neg (show ¬ (2 : Nat) = 0 by decide)] at h
          exact h M1 (zMm.ofQ hQ1) (by rw [ht1, d1, Bool.not_true, Bool.false_or, Bool.true_and, c30]; rfl) hA1 (hU.ofQ hQ1)
    · refine zj_iconstN_1 (n := 23) rfl dX10_recover_22 ?_
      refine zj_goto (tgt := 27) dX10_recover_23 (by decide) ?_
      rw [show nI 1 = zb ((!zin x (v 6) || (zin x (v 6) && (v (10 + 12 * xn x + 4) == 1)))) from by rw [c19, c11]; rfl]
      refine zj_callV2 (n := 30) (a' := 0) (b' := 0) rfl dX10_recover_27 zm_X10_395 (by decide) (by decide) rfl (Nat.le_of_ble_eq_true rfl) (Nat.le_of_ble_eq_true rfl) (Nat.le_of_ble_eq_true rfl) (Nat.le_of_ble_eq_true rfl) (jX10_passes2Q (q := (!zin x (v 6) || (zin x (v 6) && (v (10 + 12 * xn x + 4) == 1)))) ?_)
      intro M1 hQ1 hF1 hL1 h118 ht1
      have hA1 := hQ1.ra hA
      have hd1 := hQ1.td hd
      refine zj_ifB_ne (n := 33) (tgt := 35) rfl dX10_recover_30 (by decide) (fun c30 => ?_) (fun c30 => ?_)
      · obtain ⟨d1, d2⟩ := (Bool.and_eq_true _ _).mp c30
        obtain ⟨n, hn, rfl⟩ := (zin_iff (by omega)).mp d1
        refine zj_aload0 (n := 36) rfl dX10_recover_35 ?_
        refine zj_callV0 (n := 39) (a' := 0) (b' := 0) rfl dX10_recover_36 zm_X10_382 (by decide) (by decide) rfl (Nat.le_of_ble_eq_true rfl) (Nat.le_of_ble_eq_true rfl) (Nat.le_of_ble_eq_true rfl) (Nat.le_of_ble_eq_true rfl) (jX10_remember hA1 (hU.ofQ hQ1) ?_)
        intro M2 a21 a22 a23 hU2
        have hA2 := hA1.rem a21 a23
        have hm2 := (zMm.ofQ hQ1).rem a21 a22 a23
        have ht2 : M2.1 118 0 = M1.1 118 0 := a22 0 (by decide)
        have hd2 := hm2.td hd
        refine zj_aload0 (n := 40) rfl dX10_recover_39 ?_
        refine zj_callV0 (n := 43) (a' := 0) (b' := 0) rfl dX10_recover_40 zm_X10_411 (by decide) (by decide) rfl (Nat.le_of_ble_eq_true rfl) (Nat.le_of_ble_eq_true rfl) (Nat.le_of_ble_eq_true rfl) (Nat.le_of_ble_eq_true rfl) (jX10_lostSet hA2 hW hd2 (by decide) ?_)
        refine zj_istore2 (n := 44) rfl dX10_recover_43 rfl (Nat.le_of_ble_eq_true rfl) ?_
        refine zj_aload0 (n := 45) rfl dX10_recover_44 ?_
        refine zj_iload1 (n := 46) rfl dX10_recover_45 ?_
        refine zj_iconstN_0 (n := 47) rfl dX10_recover_46 ?_
        refine zj_callV2 (n := 50) (a' := 0) (b' := 0) rfl dX10_recover_47 zm_X10_423 (by decide) (by decide) rfl (Nat.le_of_ble_eq_true rfl) (Nat.le_of_ble_eq_true rfl) (Nat.le_of_ble_eq_true rfl) (Nat.le_of_ble_eq_true rfl) (jX10_become hA2 (by omega) ?_)
        intro M3 a31 a32 hA3
        have hm3 : zMm M M3 := hm2.tr ⟨fun a j hj => by rw [a31 a (fun q => by subst q; simp [zMmI] at hj)], fun c j _ _ => by rw [a32], by rw [a32]⟩
        have hU3 := hU2.q (by rw [a31 118 (by decide)]) (a31 128 (by decide))
        have ht3 : M3.1 118 0 = M1.1 118 0 := (by rw [a31 118 (by decide)]; exact ht2)
        have hd3 := hm3.td hd
        refine zj_iload2 (n := 51) rfl dX10_recover_50 ?_
        refine zj_aload0 (n := 52) rfl dX10_recover_51 ?_
        refine zj_callV0 (n := 55) (a' := 0) (b' := 0) rfl dX10_recover_52 zm_X10_411 (by decide) (by decide) rfl (Nat.le_of_ble_eq_true rfl) (Nat.le_of_ble_eq_true rfl) (Nat.le_of_ble_eq_true rfl) (Nat.le_of_ble_eq_true rfl) (jX10_lostSet hA3 (vst_wf hW hn (by decide)) hd3 (by decide) ?_)
        refine zj_iconst_m1 (n := 56) rfl dX10_recover_55 ?_
        refine zj_ixor (n := 57) rfl dX10_recover_56 ?_
        refine zj_iand (n := 58) rfl dX10_recover_57 ?_
        refine zj_ireturn dX10_recover_58 rfl rfl ?_
        have d4 : v (10 + 12 * n + 4) = 1 := by
          rw [d1, Bool.true_and, Bool.not_true, Bool.false_or] at d2
          simpa [xn_at (show n < 2 ^ 31 by omega)] using d2
        simp only [a_recover, skeep, d1, xn_at (show n < 2 ^ 31 by omega), if_true, d4] at h
        refine zQi (h M3 hm3 (by rw [ht3, ht1, d2, d1]; rfl) hA3 hU3) ?_
        have e8 : vst v n 0 8 = v 8 := by unfold vst; rw [vset_off (by omega), vset_off (by omega)]
        rw [e8, zMask_diff]
      · refine zj_iconstN_0 (n := 34) rfl dX10_recover_33 ?_
        refine zj_ireturn dX10_recover_34 rfl rfl ?_
        cases d1 : zin x (v 6) with
        | false =>
          simp only [a_recover, skeep, d1, if_false, Bool.false_eq_true, if_neg (show ¬ (1 : Nat) = 0 by decide)] at h
          exact h M1 (zMm.ofQ hQ1) (by rw [ht1, d1]; rfl) hA1 (hU.ofQ hQ1)
        | true =>
          rw [d1, Bool.true_and, Bool.true_and, Bool.not_true, Bool.false_or] at c30
          have d3 : ¬ v (10 + 12 * xn x + 4) = 1 := by simpa using c30
          simp only [a_recover, skeep, d1, if_true, if_neg d3, if_neg (show ¬ (2 : Nat) = 0 by decide)] at h
          exact h M1 (zMm.ofQ hQ1) (by rw [ht1, d1, Bool.not_true, Bool.false_or, Bool.true_and, c30]; rfl) hA1 (hU.ofQ hQ1)
theorem jX10_round {v : zV}  {un : Nat} {uv : Nat → zV} {Q : Option Value → zM → Prop} {X : String → zM → Prop} {M : zM} (hA : zRA M 119 v) (hW : zWF v) (hd : M.1 118 4 = nI 0) (hU : zMu M un uv) (h : ∀ M', zMm M M' → M'.1 118 0 = nI (a_round v).1 → zRA M' 119 (skeep (a_round v).1 (vround v) v un uv).1 → zMu M' (skeep (a_round v).1 (vround v) v un uv).2.1 (skeep (a_round v).1 (vround v) v un uv).2.2 → Q (some (.int (a_round v).2)) M') : zJ yX10_round cX10_round 1 (some .int) rX10_round Q X rX10_round.cells rX10_round.slots 0 (zEnt 1 [.ref 118]) [] M := by
  have h6 := hW.nN
  have h7 := hW.tN
  have h8 := hW.gN
  have h9 := hW.hN
  show zJ yX10_round cX10_round 1 (some .int) rX10_round Q X 0 0 0 [some (.ref 118)] [] M
  refine zj_aload0 (n := 1) rfl dX10_round_0 ?_
  refine zj_iconstN_0 (n := 2) rfl dX10_round_1 ?_
  refine zj_puti (n := 5) rfl dX10_round_2 zp_X10_3 rfl (by decide) (by decide) ?_
  refine zj_gen (fun M1 => zQm M M1 ∧ M1.1 118 0 = nI 0 ∧ M1.2 = M.2) ⟨zQm.thr, by dsimp only; exact zU_eq, rfl⟩ (fun M1 h1 => ?_)
  obtain ⟨hQ1, ht1, hL1⟩ := h1
  have hA1 := hQ1.ra hA
  have hd1 := hQ1.td hd
  refine zj_aload0 (n := 6) rfl dX10_round_5 ?_
  refine zj_callV0 (n := 9) (a' := 0) (b' := 0) rfl dX10_round_6 zm_X10_382 (by decide) (by decide) rfl (Nat.le_of_ble_eq_true rfl) (Nat.le_of_ble_eq_true rfl) (Nat.le_of_ble_eq_true rfl) (Nat.le_of_ble_eq_true rfl) (jX10_remember hA1 (hU.ofQ hQ1) ?_)
  intro M2 a21 a22 a23 hU2
  have hA2 := hA1.rem a21 a23
  have hm2 := (zMm.ofQ hQ1).rem a21 a22 a23
  have ht2 : M2.1 118 0 = M1.1 118 0 := a22 0 (by decide)
  have hd2 := hm2.td hd
  refine zj_aload0 (n := 10) rfl dX10_round_9 ?_
  refine zj_callV0 (n := 13) (a' := 0) (b' := 0) rfl dX10_round_10 zm_X10_426 (by decide) (by decide) rfl (Nat.le_of_ble_eq_true rfl) (Nat.le_of_ble_eq_true rfl) (Nat.le_of_ble_eq_true rfl) (Nat.le_of_ble_eq_true rfl) (jX10_passRound hA2 hW hd2 ?_)
  intro M3 hS3 hA3 h15 hL3
  refine zj_ireturn dX10_round_13 rfl rfl ?_
  simp only [a_round, skeep, if_true] at h
  exact h M3 (hm2.tr (zMm.ofS hS3)) ((hS3.1 118 0 rfl).trans (ht2.trans ht1)) hA3 (hU2.ofS hS3)
theorem jX10_rounds {v : zV} {x : Int32} {un : Nat} {uv : Nat → zV} {Q : Option Value → zM → Prop} {X : String → zM → Prop} {M : zM} (hA : zRA M 119 v) (hW : zWF v) (hd : M.1 118 4 = nI 0) (hU : zMu M un uv) (h : ∀ M', zMm M M' → M'.1 118 0 = nI (a_rounds v x).1 → zRA M' 119 (skeep (a_rounds v x).1 (vrs v (xn x)) v un uv).1 → zMu M' (skeep (a_rounds v x).1 (vrs v (xn x)) v un uv).2.1 (skeep (a_rounds v x).1 (vrs v (xn x)) v un uv).2.2 → Q (some (.int (a_rounds v x).2)) M') : zJ yX10_rounds cX10_rounds 4 (some .int) rX10_rounds Q X rX10_rounds.cells rX10_rounds.slots 0 (zEnt 4 [.ref 118, .int x]) [] M := by
  have h6 := hW.nN
  have h7 := hW.tN
  have h8 := hW.gN
  have h9 := hW.hN
  show zJ yX10_rounds cX10_rounds 4 (some .int) rX10_rounds Q X 0 0 0 [some (.ref 118), some (.int x), none, none] [] M
  refine zj_aload0 (n := 1) rfl dX10_rounds_0 ?_
  refine zj_iload1 (n := 2) rfl dX10_rounds_1 ?_
  refine zj_i2l (n := 3) rfl dX10_rounds_2 ?_
  refine zj_lconstN_1 (n := 4) rfl dX10_rounds_3 ?_
  refine zj_ldc2N (v := 100) (n := 7) rfl dX10_rounds_4 zc_X10_429 ?_
  refine zj_callS3 (n := 10) (a' := 0) (b' := 0) rfl dX10_rounds_7 zm_X10_62 (by decide) (Nat.le_of_ble_eq_true rfl) (Nat.le_of_ble_eq_true rfl) (Nat.le_of_ble_eq_true rfl) (Nat.le_of_ble_eq_true rfl) (jX10_inC (by decide) (by decide) ?_)
  refine zj_callV1 (n := 13) (a' := 0) (b' := 0) rfl dX10_rounds_10 zm_X10_216 (by decide) (by decide) rfl (Nat.le_of_ble_eq_true rfl) (Nat.le_of_ble_eq_true rfl) (Nat.le_of_ble_eq_true rfl) (Nat.le_of_ble_eq_true rfl) (jX10_passesQ ?_)
  intro M1 hQ1 hF1 hL1 h118 ht1
  have hA1 := hQ1.ra hA
  have hd1 := hQ1.td hd
  refine zj_ifB_ne (n := 16) (tgt := 18) rfl dX10_rounds_13 (by decide) (fun c13 => ?_) (fun c13 => ?_)
  · obtain ⟨n, hn1, hn2, rfl⟩ := (zin2_iff (by decide) (by decide)).mp c13
    refine zj_aload0 (n := 19) rfl dX10_rounds_18 ?_
    refine zj_callV0 (n := 22) (a' := 0) (b' := 0) rfl dX10_rounds_19 zm_X10_382 (by decide) (by decide) rfl (Nat.le_of_ble_eq_true rfl) (Nat.le_of_ble_eq_true rfl) (Nat.le_of_ble_eq_true rfl) (Nat.le_of_ble_eq_true rfl) (jX10_remember hA1 (hU.ofQ hQ1) ?_)
    intro M2 a21 a22 a23 hU2
    have hA2 := hA1.rem a21 a23
    have hm2 := (zMm.ofQ hQ1).rem a21 a22 a23
    have ht2 : M2.1 118 0 = M1.1 118 0 := a22 0 (by decide)
    have hd2 := hm2.td hd
    refine zj_iconstN_0 (n := 23) rfl dX10_rounds_22 ?_
    refine zj_istore2 (n := 24) rfl dX10_rounds_23 rfl (Nat.le_of_ble_eq_true rfl) ?_
    refine zj_iconstN_0 (n := 25) rfl dX10_rounds_24 ?_
    refine zj_istore3 (n := 26) rfl dX10_rounds_25 rfl (Nat.le_of_ble_eq_true rfl) ?_
    refine zFor_rule (P := fun k (_ : Unit) => ∀ M3, zMm M M3 → zRA M3 119 (vrs v k) → zMu M3 (vkN un) (vkU un uv v) → M3.1 118 0 = M1.1 118 0 → zJ yX10_rounds cX10_rounds 4 (some .int) rX10_rounds Q X 0 0 26 [some (.ref 118), some (.int (nI n)), some (.int (nI (vsum (fun k => vrepd (vrs v k)) k))), some (.int (nI k))] [] M3) (n := n) (f := fun _ s => s) (s0 := ()) ?_ ?_ M2 hm2 hA2 hU2 ht2
    · intro k _ hk9 hk M3 hm3 hA3 hU3 ht3
      refine zj_iload3 (n := 27) rfl dX10_rounds_26 ?_
      refine zj_iload1 (n := 28) rfl dX10_rounds_27 ?_
      refine zj_icmpN_ge (n := 31) (tgt := 49) rfl dX10_rounds_28 (by decide) (by omega) (by omega) (fun c28 => by omega) (fun c28 => ?_)
      refine zj_aload0 (n := 32) rfl dX10_rounds_31 ?_
      refine zj_callV0 (n := 35) (a' := 0) (b' := 0) rfl dX10_rounds_32 zm_X10_426 (by decide) (by decide) rfl (Nat.le_of_ble_eq_true rfl) (Nat.le_of_ble_eq_true rfl) (Nat.le_of_ble_eq_true rfl) (Nat.le_of_ble_eq_true rfl) (jX10_passRound hA3 (vrs_wf hW k) (hm3.td hd) ?_)
      intro M4 hS4 hA4 h15 hL4
      refine zj_pop (n := 36) rfl dX10_rounds_35 ?_
      refine zj_iload2 (n := 37) rfl dX10_rounds_36 ?_
      refine zj_aload0 (n := 38) rfl dX10_rounds_37 ?_
      refine zj_getiN (e := vrepd (vrs v k)) (n := 41) rfl dX10_rounds_38 zf_X10_199 rfl (by decide) (by decide) h15 ?_
      refine zj_iaddN (n := 42) rfl dX10_rounds_41 ?_
      refine zj_istore2 (n := 43) rfl dX10_rounds_42 rfl (Nat.le_of_ble_eq_true rfl) ?_
      refine zj_iincN3 (n := 46) rfl dX10_rounds_43 rfl (Nat.le_of_ble_eq_true rfl) ?_
      refine zj_goto (tgt := 26) dX10_rounds_46 (by decide) ?_
      exact hk M4 (hm3.tr (zMm.ofS hS4)) hA4 (hU3.ofS hS4) ((hS4.1 118 0 rfl).trans ht3)
    · intro M3 hm3 hA3 hU3 ht3
      refine zj_iload3 (n := 27) rfl dX10_rounds_26 ?_
      refine zj_iload1 (n := 28) rfl dX10_rounds_27 ?_
      refine zj_icmpN_ge (n := 31) (tgt := 49) rfl dX10_rounds_28 (by decide) (by omega) (by omega) (fun c28 => ?_) (fun c28 => by omega)
      refine zj_iload2 (n := 50) rfl dX10_rounds_49 ?_
      refine zj_ireturn dX10_rounds_50 rfl rfl ?_
      simp only [a_rounds, skeep, c13, xn_at (show n < 2 ^ 31 by omega), if_true] at h
      exact h M3 hm3 (by rw [ht3, ht1, c13]; rfl) hA3 hU3
  · refine zj_iconstN_0 (n := 17) rfl dX10_rounds_16 ?_
    refine zj_ireturn dX10_rounds_17 rfl rfl ?_
    simp only [a_rounds, skeep, c13, if_false, Bool.false_eq_true, if_neg (show ¬ (1 : Nat) = 0 by decide)] at h
    exact h M1 (zMm.ofQ hQ1) (by rw [ht1, c13]; rfl) hA1 (hU.ofQ hQ1)
theorem jX10_set {v : zV} {un : Nat} {uv : Nat → zV} {i x : Nat} {Q : Option Value → zM → Prop} {X : String → zM → Prop} {M : zM} (hA : zRA M 119 v) (hU : zMu M un uv) (hi : i < 698) (h : ∀ M', zMm M M' → zRA M' 119 (vset v i x) → zMu M' (vkN un) (vkU un uv v) → M'.1 118 0 = M.1 118 0 → Q (some (.int (nI (v i)))) M') : zJ yX10_set cX10_set 4 (some .int) rX10_set Q X rX10_set.cells rX10_set.slots 0 (zEnt 4 [.ref 118, .int (nI i), .int (nI x)]) [] M := by
  show zJ yX10_set cX10_set 4 (some .int) rX10_set Q X 0 0 0 [some (.ref 118), some (.int (nI i)), some (.int (nI x)), none] [] M
  refine zj_aload0 (n := 1) rfl dX10_set_0 ?_
  refine zj_callV0 (n := 4) (a' := 0) (b' := 0) rfl dX10_set_1 zm_X10_382 (by decide) (by decide) rfl (Nat.le_of_ble_eq_true rfl) (Nat.le_of_ble_eq_true rfl) (Nat.le_of_ble_eq_true rfl) (Nat.le_of_ble_eq_true rfl) (jX10_remember hA hU ?_)
  intro M2 a21 a22 a23 hU2
  have hA2 := hA.rem a21 a23
  have hm2 := (zMm.rf (M := M)).rem a21 a22 a23
  refine zj_aload0 (n := 5) rfl dX10_set_4 ?_
  refine zj_getr (n := 8) (q := 119) rfl dX10_set_5 zf_X10_17 rfl (by decide) (by decide) rfl ?_
  refine zj_iload1 (n := 9) rfl dX10_set_8 ?_
  refine zj_ialoadN (e := v i) (n := 10) rfl dX10_set_9 (by decide) (by decide) (by rw [show zLen 119 = 698 from rfl]; omega) (hA2.2.2 i hi) ?_
  refine zj_istore3 (n := 11) rfl dX10_set_10 rfl (Nat.le_of_ble_eq_true rfl) ?_
  refine zj_aload0 (n := 12) rfl dX10_set_11 ?_
  refine zj_getr (n := 15) (q := 119) rfl dX10_set_12 zf_X10_17 rfl (by decide) (by decide) rfl ?_
  refine zj_iload1 (n := 16) rfl dX10_set_15 ?_
  refine zj_iload2 (n := 17) rfl dX10_set_16 ?_
  refine zj_iastoreN (n := 18) rfl dX10_set_17 (by decide) (by decide) (by rw [show zLen 119 = 698 from rfl]; omega) ?_
  refine zj_iload3 (n := 19) rfl dX10_set_18 ?_
  exact zj_ireturn dX10_set_19 rfl rfl (h _ (hm2.row (by simp [zMmI])) hA2.set hU2.row (by dsimp only; rw [zU_ne (by decide)]; exact a22 0 (by decide)))
theorem jX10_setBandwidth {v : zV} {x : Int32} {un : Nat} {uv : Nat → zV} {Q : Option Value → zM → Prop} {X : String → zM → Prop} {M : zM} (hA : zRA M 119 v) (hW : zWF v) (hd : M.1 118 4 = nI 0) (hU : zMu M un uv) (h : ∀ M', zMm M M' → M'.1 118 0 = nI (a_setBandwidth v x).1 → zRA M' 119 (skeep (a_setBandwidth v x).1 (vset v 0 (xn x)) v un uv).1 → zMu M' (skeep (a_setBandwidth v x).1 (vset v 0 (xn x)) v un uv).2.1 (skeep (a_setBandwidth v x).1 (vset v 0 (xn x)) v un uv).2.2 → Q (some (.int (a_setBandwidth v x).2)) M') : zJ yX10_setBandwidth cX10_setBandwidth 2 (some .int) rX10_setBandwidth Q X rX10_setBandwidth.cells rX10_setBandwidth.slots 0 (zEnt 2 [.ref 118, .int x]) [] M := by
  have h6 := hW.nN
  have h7 := hW.tN
  have h8 := hW.gN
  have h9 := hW.hN
  show zJ yX10_setBandwidth cX10_setBandwidth 2 (some .int) rX10_setBandwidth Q X 0 0 0 [some (.ref 118), some (.int x)] [] M
  refine zj_aload0 (n := 1) rfl dX10_setBandwidth_0 ?_
  refine zj_iload1 (n := 2) rfl dX10_setBandwidth_1 ?_
  refine zj_i2l (n := 3) rfl dX10_setBandwidth_2 ?_
  refine zj_lconstN_1 (n := 4) rfl dX10_setBandwidth_3 ?_
  refine zj_ldc2N (v := 99999) (n := 7) rfl dX10_setBandwidth_4 zc_X10_436 ?_
  refine zj_callS3 (n := 10) (a' := 0) (b' := 0) rfl dX10_setBandwidth_7 zm_X10_62 (by decide) (Nat.le_of_ble_eq_true rfl) (Nat.le_of_ble_eq_true rfl) (Nat.le_of_ble_eq_true rfl) (Nat.le_of_ble_eq_true rfl) (jX10_inC (by decide) (by decide) ?_)
  refine zj_callV1 (n := 13) (a' := 0) (b' := 0) rfl dX10_setBandwidth_10 zm_X10_216 (by decide) (by decide) rfl (Nat.le_of_ble_eq_true rfl) (Nat.le_of_ble_eq_true rfl) (Nat.le_of_ble_eq_true rfl) (Nat.le_of_ble_eq_true rfl) (jX10_passesQ ?_)
  intro M1 hQ1 hF1 hL1 h118 ht1
  have hA1 := hQ1.ra hA
  have hd1 := hQ1.td hd
  refine zj_ifB_eq (n := 16) (tgt := 25) rfl dX10_setBandwidth_13 (by decide) (fun c13 => ?_) (fun c13 => ?_)
  · refine zj_iconstN_0 (n := 26) rfl dX10_setBandwidth_25 ?_
    refine zj_ireturn dX10_setBandwidth_26 rfl rfl ?_
    simp only [a_setBandwidth, skeep, c13, if_false, Bool.false_eq_true, if_neg (show ¬ (1 : Nat) = 0 by decide)] at h
    exact h M1 (zMm.ofQ hQ1) (by rw [ht1, c13]; rfl) hA1 (hU.ofQ hQ1)
  · obtain ⟨n, hn1, hn2, rfl⟩ := (zin2_iff (by decide) (by decide)).mp c13
    refine zj_aload0 (n := 17) rfl dX10_setBandwidth_16 ?_
    refine zj_iconstN_0 (n := 18) rfl dX10_setBandwidth_17 ?_
    refine zj_iload1 (n := 19) rfl dX10_setBandwidth_18 ?_
    refine zj_callV2 (n := 22) (a' := 0) (b' := 0) rfl dX10_setBandwidth_19 zm_X10_433 (by decide) (by decide) rfl (Nat.le_of_ble_eq_true rfl) (Nat.le_of_ble_eq_true rfl) (Nat.le_of_ble_eq_true rfl) (Nat.le_of_ble_eq_true rfl) (jX10_set hA1 (hU.ofQ hQ1) (by decide) ?_)
    intro M2 hm2 hA2 hU2 ht2
    have hm3 := (zMm.ofQ hQ1).tr hm2
    refine zj_goto (tgt := 26) dX10_setBandwidth_22 (by decide) ?_
    refine zj_ireturn dX10_setBandwidth_26 rfl rfl ?_
    simp only [a_setBandwidth, skeep, c13, xn_at (show n < 2 ^ 31 by omega), if_true] at h
    exact h M2 hm3 (by rw [ht2, ht1, c13]; rfl) hA2 hU2
theorem jX10_setRule {v : zV} {x : Int32} {un : Nat} {uv : Nat → zV} {Q : Option Value → zM → Prop} {X : String → zM → Prop} {M : zM} (hA : zRA M 119 v) (hW : zWF v) (hd : M.1 118 4 = nI 0) (hU : zMu M un uv) (h : ∀ M', zMm M M' → M'.1 118 0 = nI (a_setRule v x).1 → zRA M' 119 (skeep (a_setRule v x).1 (vset v 3 (xn x)) v un uv).1 → zMu M' (skeep (a_setRule v x).1 (vset v 3 (xn x)) v un uv).2.1 (skeep (a_setRule v x).1 (vset v 3 (xn x)) v un uv).2.2 → Q (some (.int (a_setRule v x).2)) M') : zJ yX10_setRule cX10_setRule 2 (some .int) rX10_setRule Q X rX10_setRule.cells rX10_setRule.slots 0 (zEnt 2 [.ref 118, .int x]) [] M := by
  have h6 := hW.nN
  have h7 := hW.tN
  have h8 := hW.gN
  have h9 := hW.hN
  show zJ yX10_setRule cX10_setRule 2 (some .int) rX10_setRule Q X 0 0 0 [some (.ref 118), some (.int x)] [] M
  refine zj_aload0 (n := 1) rfl dX10_setRule_0 ?_
  refine zj_iload1 (n := 2) rfl dX10_setRule_1 ?_
  refine zj_i2l (n := 3) rfl dX10_setRule_2 ?_
  refine zj_lconstN_0 (n := 4) rfl dX10_setRule_3 ?_
  refine zj_ldc2N (v := 2) (n := 7) rfl dX10_setRule_4 zc_X10_385 ?_
  refine zj_callS3 (n := 10) (a' := 0) (b' := 0) rfl dX10_setRule_7 zm_X10_62 (by decide) (Nat.le_of_ble_eq_true rfl) (Nat.le_of_ble_eq_true rfl) (Nat.le_of_ble_eq_true rfl) (Nat.le_of_ble_eq_true rfl) (jX10_inB (k := 2) (by decide) ?_)
  refine zj_callV1 (n := 13) (a' := 0) (b' := 0) rfl dX10_setRule_10 zm_X10_216 (by decide) (by decide) rfl (Nat.le_of_ble_eq_true rfl) (Nat.le_of_ble_eq_true rfl) (Nat.le_of_ble_eq_true rfl) (Nat.le_of_ble_eq_true rfl) (jX10_passesQ ?_)
  intro M1 hQ1 hF1 hL1 h118 ht1
  have hA1 := hQ1.ra hA
  have hd1 := hQ1.td hd
  refine zj_ifB_eq (n := 16) (tgt := 25) rfl dX10_setRule_13 (by decide) (fun c13 => ?_) (fun c13 => ?_)
  · refine zj_iconstN_0 (n := 26) rfl dX10_setRule_25 ?_
    refine zj_ireturn dX10_setRule_26 rfl rfl ?_
    simp only [a_setRule, skeep, c13, if_false, Bool.false_eq_true, if_neg (show ¬ (1 : Nat) = 0 by decide)] at h
    exact h M1 (zMm.ofQ hQ1) (by rw [ht1, c13]; rfl) hA1 (hU.ofQ hQ1)
  · obtain ⟨n, hn, rfl⟩ := (zin_iff (by decide)).mp c13
    refine zj_aload0 (n := 17) rfl dX10_setRule_16 ?_
    refine zj_iconstN_3 (n := 18) rfl dX10_setRule_17 ?_
    refine zj_iload1 (n := 19) rfl dX10_setRule_18 ?_
    refine zj_callV2 (n := 22) (a' := 0) (b' := 0) rfl dX10_setRule_19 zm_X10_433 (by decide) (by decide) rfl (Nat.le_of_ble_eq_true rfl) (Nat.le_of_ble_eq_true rfl) (Nat.le_of_ble_eq_true rfl) (Nat.le_of_ble_eq_true rfl) (jX10_set hA1 (hU.ofQ hQ1) (by decide) ?_)
    intro M2 hm2 hA2 hU2 ht2
    have hm3 := (zMm.ofQ hQ1).tr hm2
    refine zj_goto (tgt := 26) dX10_setRule_22 (by decide) ?_
    refine zj_ireturn dX10_setRule_26 rfl rfl ?_
    simp only [a_setRule, skeep, c13, xn_at (show n < 2 ^ 31 by omega), if_true] at h
    exact h M2 hm3 (by rw [ht2, ht1, c13]; rfl) hA2 hU2
theorem jX10_setRisk {v : zV} {x : Int32} {z : Int32} {un : Nat} {uv : Nat → zV} {Q : Option Value → zM → Prop} {X : String → zM → Prop} {M : zM} (hA : zRA M 119 v) (hW : zWF v) (hd : M.1 118 4 = nI 0) (hU : zMu M un uv) (h : ∀ M', zMm M M' → M'.1 118 0 = nI (a_setRisk v x z).1 → zRA M' 119 (skeep (a_setRisk v x z).1 (vset v (10 + 12 * xn x + 2) (xn z)) v un uv).1 → zMu M' (skeep (a_setRisk v x z).1 (vset v (10 + 12 * xn x + 2) (xn z)) v un uv).2.1 (skeep (a_setRisk v x z).1 (vset v (10 + 12 * xn x + 2) (xn z)) v un uv).2.2 → Q (some (.int (a_setRisk v x z).2)) M') : zJ yX10_setRisk cX10_setRisk 3 (some .int) rX10_setRisk Q X rX10_setRisk.cells rX10_setRisk.slots 0 (zEnt 3 [.ref 118, .int x, .int z]) [] M := by
  have h6 := hW.nN
  have h7 := hW.tN
  have h8 := hW.gN
  have h9 := hW.hN
  show zJ yX10_setRisk cX10_setRisk 3 (some .int) rX10_setRisk Q X 0 0 0 [some (.ref 118), some (.int x), some (.int z)] [] M
  refine zj_aload0 (n := 1) rfl dX10_setRisk_0 ?_
  refine zj_aload0 (n := 2) rfl dX10_setRisk_1 ?_
  refine zj_iload1 (n := 3) rfl dX10_setRisk_2 ?_
  refine zj_callV1 (n := 6) (a' := 0) (b' := 0) rfl dX10_setRisk_3 zm_X10_390 (by decide) (by decide) rfl (Nat.le_of_ble_eq_true rfl) (Nat.le_of_ble_eq_true rfl) (Nat.le_of_ble_eq_true rfl) (Nat.le_of_ble_eq_true rfl) (jX10_isNode hA (by omega) ?_)
  refine zj_iload2 (n := 7) rfl dX10_setRisk_6 ?_
  refine zj_i2l (n := 8) rfl dX10_setRisk_7 ?_
  refine zj_lconstN_0 (n := 9) rfl dX10_setRisk_8 ?_
  refine zj_ldc2N (v := 999) (n := 12) rfl dX10_setRisk_9 zc_X10_431 ?_
  refine zj_callS3 (n := 15) (a' := 0) (b' := 0) rfl dX10_setRisk_12 zm_X10_62 (by decide) (Nat.le_of_ble_eq_true rfl) (Nat.le_of_ble_eq_true rfl) (Nat.le_of_ble_eq_true rfl) (Nat.le_of_ble_eq_true rfl) (jX10_inB (k := 999) (by decide) ?_)
  refine zj_callV2 (n := 18) (a' := 0) (b' := 0) rfl dX10_setRisk_15 zm_X10_395 (by decide) (by decide) rfl (Nat.le_of_ble_eq_true rfl) (Nat.le_of_ble_eq_true rfl) (Nat.le_of_ble_eq_true rfl) (Nat.le_of_ble_eq_true rfl) (jX10_passes2Q ?_)
  intro M1 hQ1 hF1 hL1 h118 ht1
  have hA1 := hQ1.ra hA
  have hd1 := hQ1.td hd
  refine zj_ifB_eq (n := 21) (tgt := 38) rfl dX10_setRisk_18 (by decide) (fun c18 => ?_) (fun c18 => ?_)
  · refine zj_iconstN_0 (n := 39) rfl dX10_setRisk_38 ?_
    refine zj_ireturn dX10_setRisk_39 rfl rfl ?_
    cases d1 : zin x (v 6) with
    | false =>
      simp only [a_setRisk, skeep, d1, if_false, Bool.false_eq_true, if_neg (show ¬ (1 : Nat) = 0 by decide)] at h
      exact h M1 (zMm.ofQ hQ1) (by rw [ht1, d1]; rfl) hA1 (hU.ofQ hQ1)
    | true =>
      have d2 : zin z 1000 = false := by rw [d1, Bool.true_and] at c18; exact c18
      simp only [a_setRisk, skeep, d1, d2, if_true, if_false, Bool.false_eq_true, if_neg (show ¬ (2 : Nat) = 0 by decide)] at h
      exact h M1 (zMm.ofQ hQ1) (by rw [ht1, d1, d2]; rfl) hA1 (hU.ofQ hQ1)
  · obtain ⟨d1, d2⟩ := (Bool.and_eq_true _ _).mp c18
    obtain ⟨n, hn, rfl⟩ := (zin_iff (by omega)).mp d1
    obtain ⟨k, hk, rfl⟩ := (zin_iff (by decide)).mp d2
    refine zj_aload0 (n := 22) rfl dX10_setRisk_21 ?_
    refine zj_bipushN (v := 10) (n := 24) rfl dX10_setRisk_22 (by decide) ?_
    refine zj_bipushN (v := 12) (n := 26) rfl dX10_setRisk_24 (by decide) ?_
    refine zj_iload1 (n := 27) rfl dX10_setRisk_26 ?_
    refine zj_imulN (n := 28) rfl dX10_setRisk_27 ?_
    refine zj_iaddN (n := 29) rfl dX10_setRisk_28 ?_
    refine zj_iconstN_2 (n := 30) rfl dX10_setRisk_29 ?_
    refine zj_iaddN (n := 31) rfl dX10_setRisk_30 ?_
    refine zj_iload2 (n := 32) rfl dX10_setRisk_31 ?_
    refine zj_callV2 (n := 35) (a' := 0) (b' := 0) rfl dX10_setRisk_32 zm_X10_433 (by decide) (by decide) rfl (Nat.le_of_ble_eq_true rfl) (Nat.le_of_ble_eq_true rfl) (Nat.le_of_ble_eq_true rfl) (Nat.le_of_ble_eq_true rfl) (jX10_set hA1 (hU.ofQ hQ1) (by omega) ?_)
    intro M2 hm2 hA2 hU2 ht2
    have hm3 := (zMm.ofQ hQ1).tr hm2
    refine zj_goto (tgt := 39) dX10_setRisk_35 (by decide) ?_
    refine zj_ireturn dX10_setRisk_39 rfl rfl ?_
    simp only [a_setRisk, skeep, d1, d2, xn_at (show n < 2 ^ 31 by omega), xn_at (show k < 2 ^ 31 by omega), if_true] at h
    exact h M2 hm3 (by rw [ht2, ht1, d1, d2]; rfl) hA2 hU2
