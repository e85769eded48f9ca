/-! THE MODEL: find, the bids written -/
theorem zGc.ofw {M M1 : zM} (h : zGf (fun j => j == 19 || j == 20) M M1) : zGb M M1 := ⟨fun a h1 _ => h.1 a h1, h.2.1, fun j hj => h.2.2 j (by unfold zGbI at hj; simp only [Bool.or_eq_false_iff] at hj; simp only [Bool.or_eq_false_iff]; exact ⟨hj.1.2, hj.2⟩)⟩
theorem jX10_find {n : Nat} {B : Nat → Nat} {v : zV} {x : Int32} {Q : Option Value → zM → Prop} {X : String → zM → Prop} {M : zM} (hA : zRA M 119 v) (hW : zWF v) (hN : zNmS v) (h17 : M.1 118 17 = nI n) (hB : zBf M 129 n B) (hn : n ≤ 1400) (h : ∀ M', zGb M M' → M'.1 118 0 = nI (a_find v n B x).1 → M'.1 118 17 = nI (if zin x 3 then 0 else n) → Q (some (.int (a_find v n B x).2)) M') : zJ yX10_find cX10_find 3 (some .int) rX10_find Q X rX10_find.cells rX10_find.slots 0 (zEnt 3 [.ref 118, .int x]) [] M := by
  show zJ yX10_find cX10_find 3 (some .int) rX10_find Q X 0 0 0 [some (.ref 118), some (.int x), none] [] M
  refine zj_aload0 (n := 1) rfl dX10_find_0 ?_
  refine zj_iload1 (n := 2) rfl dX10_find_1 ?_
  refine zj_i2l (n := 3) rfl dX10_find_2 ?_
  refine zj_lconstN_0 (n := 4) rfl dX10_find_3 ?_
  refine zj_ldc2N (v := 2) (n := 7) rfl dX10_find_4 zc_X10_385 ?_
  refine zj_callS3 (n := 10) (a' := 0) (b' := 0) rfl dX10_find_7 zm_X10_62 (by decide) (Nat.le_of_ble_eq_true rfl) (Nat.le_of_ble_eq_true rfl) (Nat.le_of_ble_eq_true rfl) (Nat.le_of_ble_eq_true rfl) (jX10_inB (k := 2) (by decide) ?_)
  refine zj_callV1 (n := 13) (a' := 0) (b' := 0) rfl dX10_find_10 zm_X10_216 (by decide) (by decide) rfl (Nat.le_of_ble_eq_true rfl) (Nat.le_of_ble_eq_true rfl) (Nat.le_of_ble_eq_true rfl) (Nat.le_of_ble_eq_true rfl) (jX10_passesQ ?_)
  intro M0 hQ0 hF0_ hL0 h118 ht0
  have hF0 : zGb M M0 := ⟨fun a h1 _ => hF0_ a h1, hL0, fun j hj => h118 j (by unfold zGbI at hj; simp only [Bool.or_eq_false_iff, beq_eq_false_iff_ne] at hj; omega)⟩
  have hn0 : M0.1 118 17 = nI n := by rw [h118 17 (by decide)]; exact h17
  have hB0 : zBf M0 129 n B := hB.cg (hF0_ 129 (by decide))
  refine zj_ifB_ne (n := 16) (tgt := 18) rfl dX10_find_13 (by decide) (fun c13 => ?_) (fun c13 => ?_)
  · obtain ⟨k, hk, rfl⟩ := (zin_iff (by decide)).mp c13
    refine zj_aload0 (n := 19) rfl dX10_find_18 ?_
    refine zj_callV0 (n := 22) (a' := 0) (b' := 0) rfl dX10_find_19 zm_X10_387 (by decide) (by decide) rfl (Nat.le_of_ble_eq_true rfl) (Nat.le_of_ble_eq_true rfl) (Nat.le_of_ble_eq_true rfl) (Nat.le_of_ble_eq_true rfl) (jX10_isInputWord hn0 hB0 hn ?_)
    intro M1 hF1 h20 h19
    have hB1 : zBf M1 129 n B := hB0.cg (hF1.1 129 (by decide))
    refine zj_istore2 (n := 23) rfl dX10_find_22 rfl (Nat.le_of_ble_eq_true rfl) ?_
    refine zj_aload0 (n := 24) rfl dX10_find_23 ?_
    refine zj_iconstN_0 (n := 25) rfl dX10_find_24 ?_
    refine zj_puti (n := 28) rfl dX10_find_25 zp_X10_213 rfl (by decide) (by decide) ?_
    refine zj_iload2 (n := 29) rfl dX10_find_28 ?_
    refine zj_ifB_eq (n := 32) (tgt := 40) rfl dX10_find_29 (by decide) (fun c29 => ?_) (fun c29 => ?_)
    · refine zj_iconst_m1 (n := 41) rfl dX10_find_40 ?_
      refine zj_ireturn dX10_find_41 rfl rfl ?_
      have hf : zGb M (zU M1.1 118 17 (nI 0), M1.2) := (hF0.tr (zGc.ofw hF1)).put rfl
      have ht : (zU M1.1 118 17 (nI 0), M1.2).1 118 0 = nI 0 := by dsimp only; rw [zU_nj (by decide), hF1.2.2 0 rfl, ht0, c13]; rfl
      have e : a_find v n B (nI k) = (0, -1) := by unfold a_find; rw [c13, if_pos rfl, if_pos (isw_vnm c29)]
      rw [e, c13, if_pos rfl] at h
      exact h _ hf ht zUe
    · refine zj_aload0 (n := 33) rfl dX10_find_32 ?_
      refine zj_iload1 (n := 34) rfl dX10_find_33 ?_
      refine zj_callV1 (n := 37) (a' := 0) (b' := 0) rfl dX10_find_34 zm_X10_343 (by decide) (by decide) rfl (Nat.le_of_ble_eq_true rfl) (Nat.le_of_ble_eq_true rfl) (Nat.le_of_ble_eq_true rfl) (Nat.le_of_ble_eq_true rfl) (jX10_kindNamed (f := 0) (t := n) (n := n) (M := (zU M1.1 118 17 (nI 0), M1.2)) (zRA.off ((zGc.ofw hF1).ra (hF0.ra hA)) (by decide)) hW hN (by omega) (hB1.cg (by dsimp only; rw [zU_off (by decide)])) hn (by dsimp only; rw [zU_nj (by decide)]; exact h20) (by dsimp only; rw [zU_nj (by decide)]; exact h19) (Nat.zero_le _) (Nat.le_refl _) (fun i hi => (isw_is c29).2 i (by omega)) ?_)
      refine zj_goto (tgt := 41) dX10_find_37 (by decide) ?_
      refine zj_ireturn dX10_find_41 rfl rfl ?_
      have hf : zGb M (zU M1.1 118 17 (nI 0), M1.2) := (hF0.tr (zGc.ofw hF1)).put rfl
      have ht : (zU M1.1 118 17 (nI 0), M1.2).1 118 0 = nI 0 := by dsimp only; rw [zU_nj (by decide), hF1.2.2 0 rfl, ht0, c13]; rfl
      have e : a_find v n B (nI k) = (0, zo (kfind v k B 0 n)) := by
        unfold a_find
        rw [c13, if_pos rfl, xn_at (by omega)]
        by_cases q : vnm B 0 n = 0
        · rw [if_pos q, kfind_0 hN (by omega) q]; rfl
        · rw [if_neg q]
      rw [e, c13, if_pos rfl] at h
      exact h _ hf ht zUe
  · refine zj_iconstN_0 (n := 17) rfl dX10_find_16 ?_
    refine zj_ireturn dX10_find_17 rfl rfl ?_
    have e : a_find v n B x = (1, nI 0) := by unfold a_find; rw [c13, if_neg (by decide)]
    rw [e, c13, if_neg (by decide)] at h
    exact h M0 hF0 (by rw [ht0, c13]; rfl) hn0
