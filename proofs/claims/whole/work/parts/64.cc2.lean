/-! THE CLASS'S CHANGES: move; more questions -/
theorem zcanm {v : zV} {g s n : Nat} (h : n < 16) : vcanm v g s n = (vav v 0 g s && vct v (vcnt v (v 8)) (vnsk v g (vsh v g)) n) := by
  unfold vcanm vct
  rw [vnsk_bit h]
  generalize vav v 0 g s = a
  generalize (v (10 + 12 * n + 4) == 0) = b
  generalize vhas v g (vsh v g) n = c
  generalize decide (vcnt v (v 8) n < v (10 + 12 * n + 3)) = d
  cases a <;> cases b <;> cases c <;> cases d <;> rfl
theorem jX9_move {v : zV} {x : Int32} {z : Int32} {t : Int32} {un : Nat} {uv : Nat → zV} {Q : Option Value → zM → Prop} {X : String → zM → Prop} {M : zM} (hC : zCl M v) (hW : zWF v) (hU : zUd M un uv) (hx1 : (a_move v x z t).1 = 1 → X "java/lang/IndexOutOfBoundsException" M) (hx2 : (a_move v x z t).1 = 2 → X "java/lang/IllegalStateException" M) (h : (a_move v x z t).1 = 0 → ∀ M', zMn M M' → zCl M' (vset v (268 + 23 * xn x + 7 + xn z) (xn t)) → zUd M' (vkN un) (vkU un uv v) → Q (some (.int (a_move v x z t).2)) M') : zJ yX9_move cX9_move 5 (some .int) rX9_move Q X rX9_move.cells rX9_move.slots 0 (zEnt 5 [.ref 99, .int x, .int z, .int t]) [] M := by
  have hR := hC.1
  have h6 := hW.nN
  have h7 := hW.tN
  have h8 := hW.gN
  have h9 := hW.hN
  show zJ yX9_move cX9_move 5 (some .int) rX9_move Q X 4 24 0 [some (.ref 99), some (.int x), some (.int z), some (.int t), none] [] M
  refine zj_aload0 (n := 1) rfl dX9_move_0 ?_
  refine zj_iload1 (n := 2) rfl dX9_move_1 ?_
  refine zj_iload2 (n := 3) rfl dX9_move_2 ?_
  refine zj_callV2 (n := 6) (a' := 2) (b' := 12) rfl dX9_move_3 zm_X9_151 (by decide) (by decide) rfl (Nat.le_of_ble_eq_true rfl) (Nat.le_of_ble_eq_true rfl) (Nat.le_of_ble_eq_true rfl) (Nat.le_of_ble_eq_true rfl) (jX9_needShard hR hW (fun n k hn e1 hk e2 => ?_) (fun q => hx1 (by simp only [a_move]; rw [if_neg (fun q9 => by simp only [Bool.and_eq_true] at q9; rw [q9.1.1, q9.2] at q; cases q)])))
  subst e1
  subst e2
  have hsh := (hW.sh hn).2
  have c2 := (zin_iff (x := nI n) (n := v 8) (by omega)).mpr ⟨n, hn, rfl⟩
  have c3 := (zin_iff (x := nI k) (n := vsh v n) (by omega)).mpr ⟨k, hk, rfl⟩
  refine zj_aload0 (n := 7) rfl dX9_move_6 ?_
  refine zj_iload3 (n := 8) rfl dX9_move_7 ?_
  refine zj_callV1 (n := 11) (a' := 1) (b' := 6) rfl dX9_move_8 zm_X9_120 (by decide) (by decide) rfl (Nat.le_of_ble_eq_true rfl) (Nat.le_of_ble_eq_true rfl) (Nat.le_of_ble_eq_true rfl) (Nat.le_of_ble_eq_true rfl) (jX9_needNode hR (fun c8 => ?_) (fun c8 => hx1 (by simp [a_move, c8])))
  obtain ⟨m, hm, rfl⟩ := (zin_iff (by omega)).mp c8
  have hk4 : v (10 + 12 * m + 4) ≤ 2 := (hW.node hm).2.2.2.2
  have hk3 : v (10 + 12 * m + 3) ≤ 50 := (hW.node hm).2.2.2.1
  refine zj_aload0 (n := 12) rfl dX9_move_11 ?_
  refine zj_getr (n := 15) (q := 0) rfl dX9_move_12 zf_X9_33 rfl (by decide) (by decide) rfl ?_
  refine zj_iload1 (n := 16) rfl dX9_move_15 ?_
  refine zj_callV1 (n := 19) (a' := 1) (b' := 6) rfl dX9_move_16 zm_X9_158 (by decide) (by decide) rfl (Nat.le_of_ble_eq_true rfl) (Nat.le_of_ble_eq_true rfl) (Nat.le_of_ble_eq_true rfl) (Nat.le_of_ble_eq_true rfl) (jX6_missingSet hR hW hn ?_)
  refine zj_iload2 (n := 20) rfl dX9_move_19 ?_
  refine zj_callS2 (n := 23) (a' := 1) (b' := 6) rfl dX9_move_20 zm_X9_132 (by decide) (Nat.le_of_ble_eq_true rfl) (Nat.le_of_ble_eq_true rfl) (Nat.le_of_ble_eq_true rfl) (Nat.le_of_ble_eq_true rfl) (jX9_isIn (vmiss_lt (by omega)) (by omega) ?_)
  rw [show (vmiss v 0 n).testBit k = !vav v 0 n k from by unfold vmiss; rw [zMask_bit, decide_eq_true hk, Bool.true_and]]
  refine zj_ifB_ne (n := 26) (tgt := 49) rfl dX9_move_23 (by decide) (fun c23 => ?_) (fun c23 => ?_)
  · refine zj_iconstN_0 (n := 50) rfl dX9_move_49 ?_
    refine zj_callS1 (n := 53) (a' := 0) (b' := 0) rfl dX9_move_50 zm_X9_227 (by decide) (Nat.le_of_ble_eq_true rfl) (Nat.le_of_ble_eq_true rfl) (Nat.le_of_ble_eq_true rfl) (Nat.le_of_ble_eq_true rfl) (jX9_needState (p := false) (fun q => by cases q) (fun _ => hx2 (by simp only [a_move, c2, c8, c3, xn_at (show n < 2 ^ 31 by omega), xn_at (show k < 2 ^ 31 by omega), xn_at (show m < 2 ^ 31 by omega), if_true, Bool.and_true, Bool.true_and]; rw [zcanm (by omega), show vav v 0 n k = false by simpa using c23]; rfl)))
  · refine zj_aload0 (n := 27) rfl dX9_move_26 ?_
    refine zj_getr (n := 30) (q := 0) rfl dX9_move_27 zf_X9_33 rfl (by decide) (by decide) rfl ?_
    refine zj_iload3 (n := 31) rfl dX9_move_30 ?_
    refine zj_aload0 (n := 32) rfl dX9_move_31 ?_
    refine zj_getr (n := 35) (q := 0) rfl dX9_move_32 zf_X9_33 rfl (by decide) (by decide) rfl ?_
    refine zj_iload1 (n := 36) rfl dX9_move_35 ?_
    refine zj_callV1 (n := 39) (a' := 1) (b' := 6) rfl dX9_move_36 zm_X9_129 (by decide) (by decide) rfl (Nat.le_of_ble_eq_true rfl) (Nat.le_of_ble_eq_true rfl) (Nat.le_of_ble_eq_true rfl) (Nat.le_of_ble_eq_true rfl) (jX6_nodeSet hR.i hR.g hn rfl hsh (Nat.le_refl _) (fun s hs => by have := hW.holds hn hs; omega) ?_)
    refine zj_callV2 (n := 42) (a' := 1) (b' := 6) rfl dX9_move_39 zm_X9_255 (by decide) (by decide) rfl (Nat.le_of_ble_eq_true rfl) (Nat.le_of_ble_eq_true rfl) (Nat.le_of_ble_eq_true rfl) (Nat.le_of_ble_eq_true rfl) (jX6_canTake hR.i hR.n hm (by have := vnsk_lt v n (vsh v n); omega) h6 (by omega) (by omega) (by have := hW.cnt m; omega) ?_)
    refine zj_ifB_eq (n := 45) (tgt := 49) rfl dX9_move_42 (by decide) (fun c42 => ?_) (fun c42 => ?_)
    · refine zj_iconstN_0 (n := 50) rfl dX9_move_49 ?_
      refine zj_callS1 (n := 53) (a' := 0) (b' := 0) rfl dX9_move_50 zm_X9_227 (by decide) (Nat.le_of_ble_eq_true rfl) (Nat.le_of_ble_eq_true rfl) (Nat.le_of_ble_eq_true rfl) (Nat.le_of_ble_eq_true rfl) (jX9_needState (p := false) (fun q => by cases q) (fun _ => hx2 (by simp only [a_move, c2, c8, c3, xn_at (show n < 2 ^ 31 by omega), xn_at (show k < 2 ^ 31 by omega), xn_at (show m < 2 ^ 31 by omega), if_true, Bool.and_true, Bool.true_and]; rw [zcanm (by omega), c42, Bool.and_false]; rfl)))
    · refine zj_iconstN_1 (n := 46) rfl dX9_move_45 ?_
      refine zj_goto (tgt := 50) dX9_move_46 (by decide) ?_
      refine zj_callS1 (n := 53) (a' := 0) (b' := 0) rfl dX9_move_50 zm_X9_227 (by decide) (Nat.le_of_ble_eq_true rfl) (Nat.le_of_ble_eq_true rfl) (Nat.le_of_ble_eq_true rfl) (Nat.le_of_ble_eq_true rfl) (jX9_needState (p := true) (fun _ => ?_) (fun q => by cases q))
      have hcm : vcanm v n k m = true := by rw [zcanm (by omega), c42, show vav v 0 n k = true by simpa using c23]; rfl
      have hne : hol v n k ≠ m := vhas_f (by have q := hcm; unfold vcanm at q; simp only [Bool.and_eq_true, Bool.not_eq_true'] at q; exact q.1.2) hk
      refine zj_aload0 (n := 54) rfl dX9_move_53 ?_
      refine zj_getr (n := 57) (q := 116) rfl dX9_move_54 zf_X9_54 rfl (by decide) (by decide) rfl ?_
      refine zj_aload0 (n := 58) rfl dX9_move_57 ?_
      refine zj_getr (n := 61) (q := 0) rfl dX9_move_58 zf_X9_33 rfl (by decide) (by decide) rfl ?_
      refine zj_callV1 (n := 64) (a' := 0) (b' := 0) rfl dX9_move_61 zm_X9_83 (by decide) (by decide) rfl (Nat.le_of_ble_eq_true rfl) (Nat.le_of_ble_eq_true rfl) (Nat.le_of_ble_eq_true rfl) (Nat.le_of_ble_eq_true rfl) (jX8_keep hU hR hW ?_)
      intro M1 hF1 hL1 hU1
      have hC1 := hC.kp hF1
      have hR1 := hC1.1
      have hm1 := zMn.kp hF1 hL1
      refine zj_aload0 (n := 65) rfl dX9_move_64 ?_
      refine zj_getr (n := 68) (q := 0) rfl dX9_move_65 zf_X9_33 rfl (by decide) (by decide) rfl ?_
      refine zj_iload1 (n := 69) rfl dX9_move_68 ?_
      refine zj_iload2 (n := 70) rfl dX9_move_69 ?_
      refine zj_callV2 (n := 73) (a' := 0) (b' := 0) rfl dX9_move_70 zm_X9_155 (by decide) (by decide) rfl (Nat.le_of_ble_eq_true rfl) (Nat.le_of_ble_eq_true rfl) (Nat.le_of_ble_eq_true rfl) (Nat.le_of_ble_eq_true rfl) (jX6_nodeWith hR1 hW hn hk ?_)
      refine zj_istore4 (n := 75) rfl dX9_move_73 rfl (Nat.le_of_ble_eq_true rfl) ?_
      refine zj_aload0 (n := 76) rfl dX9_move_75 ?_
      refine zj_getr (n := 79) (q := 0) rfl dX9_move_76 zf_X9_33 rfl (by decide) (by decide) rfl ?_
      refine zj_iload1 (n := 80) rfl dX9_move_79 ?_
      refine zj_iload2 (n := 81) rfl dX9_move_80 ?_
      refine zj_iload3 (n := 82) rfl dX9_move_81 ?_
      refine zj_callV3 (n := 85) (a' := 0) (b' := 0) rfl dX9_move_82 zm_X9_258 (by decide) (by decide) rfl (Nat.le_of_ble_eq_true rfl) (Nat.le_of_ble_eq_true rfl) (Nat.le_of_ble_eq_true rfl) (Nat.le_of_ble_eq_true rfl) (jX6_put hR1 hW hn hk hm hne ?_)
      intro M2 hF3 hL2 hR2
      have hF2 : ∀ a, 8 < a → M2.1 a = M1.1 a := fun a ha => hF3 a (by omega) (by omega)
      have hC2 := hC1.wr (fun a ha => hF2 a (by omega)) hR2
      have hm2 := hm1.wr (fun a ha => hF2 a (by omega)) hL2
      have hU2 := hU1.wr (fun a ha => hF2 a (by omega))
      refine zj_iload4 (n := 87) rfl dX9_move_85 ?_
      refine zj_ireturn dX9_move_87 rfl rfl ?_
      simp only [xn_at (show n < 2 ^ 31 by omega), xn_at (show k < 2 ^ 31 by omega), xn_at (show m < 2 ^ 31 by omega)] at h
      have h := h (by simp only [a_move, c2, c8, c3, xn_at (show n < 2 ^ 31 by omega), xn_at (show k < 2 ^ 31 by omega), xn_at (show m < 2 ^ 31 by omega), hcm, if_true, Bool.and_true, Bool.true_and]) M2 hm2 hC2 hU2
      simp only [a_move, c2, c8, c3, xn_at (show n < 2 ^ 31 by omega), xn_at (show k < 2 ^ 31 by omega), xn_at (show m < 2 ^ 31 by omega), hcm, if_true, Bool.and_true, Bool.true_and] at h
      exact h
