/-! THE MODEL: find, the bids written -/
theorem zGc.ofw {M M1 : zM} (h : zGf (fun j => j == 19 || j == 20) M M1) : zGb M M1 := ⟨fun a h1 _ => h.1 a h1, h.2.1, fun j hj => h.2.2 j (by unfold zGbI at hj; simp only [Bool.or_eq_false_iff] at hj; simp only [Bool.or_eq_false_iff]; exact ⟨hj.1.2, hj.2⟩)⟩
theorem jX10_find {n : Nat} {B : Nat → Nat} {v : zV} {x : Int32} {Q : Option Value → zM → Prop} {X : String → zM → Prop} {M : zM} (hA : zRA M 119 v) (hW : zWF v) (hN : zNmS v) (h17 : M.1 118 17 = nI n) (hB : zBf M 129 n B) (hn : n ≤ 1400) (h : ∀ M', zGb M M' → M'.1 129 = M.1 129 → M'.1 118 0 = nI (a_find v n B x).1 → M'.1 118 17 = nI (if zin x 3 then 0 else n) → Q (some (.int (a_find v n B x).2)) M') : zJ yX10_find cX10_find 3 (some .int) rX10_find Q X rX10_find.cells rX10_find.slots 0 (zEnt 3 [.ref 118, .int x]) [] M := by
  show zJ yX10_find cX10_find 3 (some .int) rX10_find Q X 0 0 0 [some (.ref 118), some (.int x), none] [] M
  refine zj_aload0 (n := 1) rfl dX10_find_0 ?_
  refine zj_iload1 (n := 2) rfl dX10_find_1 ?_
  refine zj_i2l (n := 3) rfl dX10_find_2 ?_
  refine zj_lconstN_0 (n := 4) rfl dX10_find_3 ?_
  refine zj_ldc2N (v := 2) (n := 7) rfl dX10_find_4 zc_X10_385 ?_
  refine zj_callS3 (n := 10) (a' := 0) (b' := 0) rfl dX10_find_7 zm_X10_62 (by decide) (Nat.le_of_ble_eq_true rfl) (Nat.le_of_ble_eq_true rfl) (Nat.le_of_ble_eq_true rfl) (Nat.le_of_ble_eq_true rfl) (jX10_inB (k := 2) (by decide) ?_)
  refine zj_callV1 (n := 13) (a' := 0) (b' := 0) rfl dX10_find_10 zm_X10_216 (by decide) (by decide) rfl (Nat.le_of_ble_eq_true rfl) (Nat.le_of_ble_eq_true rfl) (Nat.le_of_ble_eq_true rfl) (Nat.le_of_ble_eq_true rfl) (jX10_passesQ ?_)
  intro M0 hQ0 hF0_ hL0 h118 ht0
  have hF0 : zGb M M0 := ⟨fun a h1 _ => hF0_ a h1, hL0, fun j hj => h118 j (by unfold zGbI at hj; simp only [Bool.or_eq_false_iff, beq_eq_false_iff_ne] at hj; omega)⟩
  have hn0 : M0.1 118 17 = nI n := by rw [h118 17 (by decide)]; exact h17
  have hB0 : zBf M0 129 n B := hB.cg (hF0_ 129 (by decide))
  refine zj_ifB_ne (n := 16) (tgt := 18) rfl dX10_find_13 (by decide) (fun c13 => ?_) (fun c13 => ?_)
  · obtain ⟨k, hk, rfl⟩ := (zin_iff (by decide)).mp c13
    refine zj_aload0 (n := 19) rfl dX10_find_18 ?_
    refine zj_callV0 (n := 22) (a' := 0) (b' := 0) rfl dX10_find_19 zm_X10_387 (by decide) (by decide) rfl (Nat.le_of_ble_eq_true rfl) (Nat.le_of_ble_eq_true rfl) (Nat.le_of_ble_eq_true rfl) (Nat.le_of_ble_eq_true rfl) (jX10_isInputWord hn0 hB0 hn ?_)
    intro M1 hF1 h20 h19
    have hB1 : zBf M1 129 n B := hB0.cg (hF1.1 129 (by decide))
    refine zj_istore2 (n := 23) rfl dX10_find_22 rfl (Nat.le_of_ble_eq_true rfl) ?_
    refine zj_aload0 (n := 24) rfl dX10_find_23 ?_
    refine zj_iconstN_0 (n := 25) rfl dX10_find_24 ?_
    refine zj_puti (n := 28) rfl dX10_find_25 zp_X10_213 rfl (by decide) (by decide) ?_
    refine zj_iload2 (n := 29) rfl dX10_find_28 ?_
    refine zj_ifB_eq (n := 32) (tgt := 40) rfl dX10_find_29 (by decide) (fun c29 => ?_) (fun c29 => ?_)
    · refine zj_iconst_m1 (n := 41) rfl dX10_find_40 ?_
      refine zj_ireturn dX10_find_41 rfl rfl ?_
      have hf : zGb M (zU M1.1 118 17 (nI 0), M1.2) := (hF0.tr (zGc.ofw hF1)).put rfl
      have h129 : (zU M1.1 118 17 (nI 0), M1.2).1 129 = M.1 129 := by dsimp only; rw [zU_off (by decide), hF1.1 129 (by decide)]; exact hF0_ 129 (by decide)
      have ht : (zU M1.1 118 17 (nI 0), M1.2).1 118 0 = nI 0 := by dsimp only; rw [zU_nj (by decide), hF1.2.2 0 rfl, ht0, c13]; rfl
      have e : a_find v n B (nI k) = (0, -1) := by unfold a_find; rw [c13, if_pos rfl, if_pos (isw_vnm c29)]
      rw [e, c13, if_pos rfl] at h
      exact h _ hf h129 ht zUe
    · refine zj_aload0 (n := 33) rfl dX10_find_32 ?_
      refine zj_iload1 (n := 34) rfl dX10_find_33 ?_
      refine zj_callV1 (n := 37) (a' := 0) (b' := 0) rfl dX10_find_34 zm_X10_343 (by decide) (by decide) rfl (Nat.le_of_ble_eq_true rfl) (Nat.le_of_ble_eq_true rfl) (Nat.le_of_ble_eq_true rfl) (Nat.le_of_ble_eq_true rfl) (jX10_kindNamed (f := 0) (t := n) (n := n) (M := (zU M1.1 118 17 (nI 0), M1.2)) (zRA.off ((zGc.ofw hF1).ra (hF0.ra hA)) (by decide)) hW hN (by omega) (hB1.cg (by dsimp only; rw [zU_off (by decide)])) hn (by dsimp only; rw [zU_nj (by decide)]; exact h20) (by dsimp only; rw [zU_nj (by decide)]; exact h19) (Nat.zero_le _) (Nat.le_refl _) (fun i hi => (isw_is c29).2 i (by omega)) ?_)
      refine zj_goto (tgt := 41) dX10_find_37 (by decide) ?_
      refine zj_ireturn dX10_find_41 rfl rfl ?_
      have hf : zGb M (zU M1.1 118 17 (nI 0), M1.2) := (hF0.tr (zGc.ofw hF1)).put rfl
      have h129 : (zU M1.1 118 17 (nI 0), M1.2).1 129 = M.1 129 := by dsimp only; rw [zU_off (by decide), hF1.1 129 (by decide)]; exact hF0_ 129 (by decide)
      have ht : (zU M1.1 118 17 (nI 0), M1.2).1 118 0 = nI 0 := by dsimp only; rw [zU_nj (by decide), hF1.2.2 0 rfl, ht0, c13]; rfl
      have e : a_find v n B (nI k) = (0, zo (kfind v k B 0 n)) := by
        unfold a_find
        rw [c13, if_pos rfl, xn_at (by omega)]
        by_cases q : vnm B 0 n = 0
        · rw [if_pos q, kfind_0 hN (by omega) q]; rfl
        · rw [if_neg q]
      rw [e, c13, if_pos rfl] at h
      exact h _ hf h129 ht zUe
  · refine zj_iconstN_0 (n := 17) rfl dX10_find_16 ?_
    refine zj_ireturn dX10_find_17 rfl rfl ?_
    have e : a_find v n B x = (1, nI 0) := by unfold a_find; rw [c13, if_neg (by decide)]
    rw [e, c13, if_neg (by decide)] at h
    exact h M0 hF0 (hF0_ 129 (by decide)) (by rw [ht0, c13]; rfl) hn0
def zMo (M : zM) (s : Nat × (Nat → Nat)) : Prop := M.1 118 29 = nI s.1 ∧ zBf M 130 s.1 s.2
def zGo (M M' : zM) : Prop := (∀ a, a ≠ 118 → a ≠ 130 → M'.1 a = M.1 a) ∧ M'.2 = M.2 ∧ ∀ j, j ≠ 29 → M'.1 118 j = M.1 118 j
theorem zGo.rf {M : zM} : zGo M M := ⟨fun _ _ _ => rfl, rfl, fun _ _ => rfl⟩
theorem zGo.tr {M M1 M2 : zM} (h : zGo M M1) (h2 : zGo M1 M2) : zGo M M2 := ⟨fun a h3 h4 => (h2.1 a h3 h4).trans (h.1 a h3 h4), h2.2.1.trans h.2.1, fun j hj => (h2.2.2 j hj).trans (h.2.2 j hj)⟩
theorem zGo.ra {M M1 : zM} {v : zV} (h : zGo M M1) (hA : zRA M 119 v) : zRA M1 119 v := ⟨by rw [h.2.1]; exact hA.1, hA.2.1, fun j hj => by rw [h.1 119 (by decide) (by decide)]; exact hA.2.2 j hj⟩
theorem jX10_write {s : Nat × (Nat → Nat)} {b : Nat} {Q : Option Value → zM → Prop} {X : String → zM → Prop} {M : zM} (hO : zMo M s) (hb : b < 256) (hn : s.1 < 200) (h : ∀ M', zGo M M' → zMo M' (tps s b) → Q none M') : zJ yX10_write cX10_write 2 none rX10_write Q X rX10_write.cells rX10_write.slots 0 (zEnt 2 [.ref 118, .int (nI b)]) [] M := by
  show zJ yX10_write cX10_write 2 none rX10_write Q X 0 0 0 [some (.ref 118), some (.int (nI b))] [] M
  refine zj_aload0 (n := 1) rfl dX10_write_0 ?_
  refine zj_getr (n := 4) (q := 130) rfl dX10_write_1 zf_X10_59 rfl (by decide) (by decide) rfl ?_
  refine zj_aload0 (n := 5) rfl dX10_write_4 ?_
  refine zj_getiN (e := s.1) (n := 8) rfl dX10_write_5 zf_X10_473 rfl (by decide) (by decide) hO.1 ?_
  refine zj_iload1 (n := 9) rfl dX10_write_8 ?_
  refine zj_i2b (n := 10) rfl dX10_write_9 ?_
  refine zj_bastoreN (n := 11) rfl dX10_write_10 (by decide) (by decide) (by rw [show zLen 130 = 300 from rfl]; omega) ?_
  refine zj_aload0 (n := 12) rfl dX10_write_11 ?_
  refine zj_dupr (n := 13) rfl dX10_write_12 ?_
  refine zj_getiN (e := s.1) (n := 16) rfl dX10_write_13 zf_X10_473 rfl (by decide) (by decide) (by dsimp only; rw [zU_off (by decide)]; exact hO.1) ?_
  refine zj_iconstN_1 (n := 17) rfl dX10_write_16 ?_
  refine zj_iaddN (n := 18) rfl dX10_write_17 ?_
  refine zj_puti (n := 21) rfl dX10_write_18 zp_X10_473 rfl (by decide) (by decide) ?_
  exact zj_return dX10_write_21 rfl (h _ ⟨fun a h1 h2 => by dsimp only; rw [zU_off h1, zU_off h2], rfl, fun j hj => by dsimp only; rw [zU_nj hj, zU_off (by decide)]⟩ ⟨zUe, (hO.2.push (b := b) hb ((zsx_i2b _).trans (by rw [zby_nI hb]))).cg (by dsimp only; rw [zU_off (by decide)])⟩)
def wMn (x i k : Nat) (s : Nat × (Nat → Nat)) : Nat × (Nat → Nat) := zFor k (fun j s => tps s (48 + x / (10 ^ i / 10 ^ j) % 10)) s
theorem wMn_succ {x i k : Nat} {s : Nat × (Nat → Nat)} : wMn x i (k + 1) s = tps (wMn x i k s) (48 + x / (10 ^ i / 10 ^ k) % 10) := rfl
theorem wMn_1 {x i k : Nat} {s : Nat × (Nat → Nat)} : (wMn x i k s).1 = s.1 + k := by
  induction k with
  | zero => rfl
  | succ k ih => rw [wMn_succ]; show (wMn x i k s).1 + 1 = _; omega
theorem wMn_is {x i : Nat} {s : Nat × (Nat → Nat)} (hx : x < 10000) (h : x / 10 ^ i < 10) (hf : ∀ j, j < i → ¬ x / 10 ^ j < 10) : i ≤ 3 ∧ wMn x i (i + 1) s = wNum x 10 s := by
  have hi : i ≤ 3 := by
    by_cases q : i ≤ 3
    · exact q
    · have := hf 3 (by omega)
      rw [show (10 : Nat) ^ 3 = 1000 from rfl] at this
      omega
  refine ⟨hi, ?_⟩
  have e6 : wNum x 6 s = s := wNum_lo hx 6 (Nat.le_refl _)
  rcases (show i = 0 ∨ i = 1 ∨ i = 2 ∨ i = 3 by omega) with rfl | rfl | rfl | rfl
  · rw [show (10 : Nat) ^ 0 = 1 from rfl] at h
    rw [wNum_succ, wNum_succ, wNum_succ, wNum_succ, e6, if_pos (by right; decide), if_neg (by rw [show 1000000000 / 10 ^ 8 = 10 from rfl]; omega), if_neg (by rw [show 1000000000 / 10 ^ 7 = 100 from rfl]; omega), if_neg (by rw [show 1000000000 / 10 ^ 6 = 1000 from rfl]; omega)]
    rfl
  · have h0 := hf 0 (by decide)
    rw [show (10 : Nat) ^ 0 = 1 from rfl] at h0
    rw [show (10 : Nat) ^ 1 = 10 from rfl] at h
    rw [wNum_succ, wNum_succ, wNum_succ, wNum_succ, e6, if_pos (by right; decide), if_pos (by left; rw [show 1000000000 / 10 ^ 8 = 10 from rfl]; omega), if_neg (by rw [show 1000000000 / 10 ^ 7 = 100 from rfl]; omega), if_neg (by rw [show 1000000000 / 10 ^ 6 = 1000 from rfl]; omega)]
    rfl
  · have h0 := hf 1 (by decide)
    rw [show (10 : Nat) ^ 1 = 10 from rfl] at h0
    rw [show (10 : Nat) ^ 2 = 100 from rfl] at h
    rw [wNum_succ, wNum_succ, wNum_succ, wNum_succ, e6, if_pos (by right; decide), if_pos (by left; rw [show 1000000000 / 10 ^ 8 = 10 from rfl]; omega), if_pos (by left; rw [show 1000000000 / 10 ^ 7 = 100 from rfl]; omega), if_neg (by rw [show 1000000000 / 10 ^ 6 = 1000 from rfl]; omega)]
    rfl
  · have h0 := hf 2 (by decide)
    rw [show (10 : Nat) ^ 2 = 100 from rfl] at h0
    rw [show (10 : Nat) ^ 3 = 1000 from rfl] at h
    rw [wNum_succ, wNum_succ, wNum_succ, wNum_succ, e6, if_pos (by right; decide), if_pos (by left; rw [show 1000000000 / 10 ^ 8 = 10 from rfl]; omega), if_pos (by left; rw [show 1000000000 / 10 ^ 7 = 100 from rfl]; omega), if_pos (by left; rw [show 1000000000 / 10 ^ 6 = 1000 from rfl]; omega)]
    rfl
theorem z10_pos {i j : Nat} (hi : i ≤ 3) (hj : j < i + 1) : 0 < 10 ^ i / 10 ^ j ∧ 10 ^ i / 10 ^ j < 2 ^ 31 := by
  rcases (show i = 0 ∨ i = 1 ∨ i = 2 ∨ i = 3 by omega) with rfl | rfl | rfl | rfl <;> rcases (show j = 0 ∨ j = 1 ∨ j = 2 ∨ j = 3 by omega) with rfl | rfl | rfl | rfl <;> first | decide | omega
theorem z10_end {i : Nat} : 10 ^ i / 10 ^ (i + 1) = 0 := by
  rw [Nat.pow_succ]
  exact Nat.div_eq_of_lt (by have : 0 < 10 ^ i := Nat.pow_pos (by decide); omega)
theorem z10_s {i j : Nat} : 10 ^ i / 10 ^ j / 10 = 10 ^ i / 10 ^ (j + 1) := by rw [Nat.div_div_eq_div_mul, Nat.pow_succ]
theorem z10_lt {i : Nat} (h : i ≤ 3) : 0 < 10 ^ i ∧ 10 ^ i ≤ 1000 := by
  rcases (show i = 0 ∨ i = 1 ∨ i = 2 ∨ i = 3 by omega) with rfl | rfl | rfl | rfl <;> decide
theorem z_wn {s : Nat × (Nat → Nat)} {x i : Nat} {Q : Option Value → zM → Prop} {X : String → zM → Prop} {M : zM} (hx : x < 10000) (hi : i ≤ 3) (hO : zMo M s) (hn : s.1 + 4 ≤ 200) (h : ∀ M', zGo M M' → zMo M' (wMn x i (i + 1) s) → Q none M') : zJ yX10_writeNumber cX10_writeNumber 4 none rX10_writeNumber Q X 0 0 20 [some (.ref 118), some (.int (nI x)), some (.int (nI (10 ^ i))), some (.int (nI (10 ^ i / 10 ^ 0)))] [] M := by
  refine zFor_rule (P := fun j (_ : Unit) => ∀ M1, zGo M M1 → zMo M1 (wMn x i j s) → zJ yX10_writeNumber cX10_writeNumber 4 none rX10_writeNumber Q X 0 0 20 [some (.ref 118), some (.int (nI x)), some (.int (nI (10 ^ i))), some (.int (nI (10 ^ i / 10 ^ j)))] [] M1) (n := i + 1) (f := fun _ s => s) (s0 := ()) ?_ ?_ M zGo.rf hO
  · intro j _ hj hk M1 hF1 hO1
    obtain ⟨hp1, hp2⟩ := z10_pos hi hj
    have hq := Nat.div_le_self x (10 ^ i / 10 ^ j)
    refine zj_iload3 (n := 21) rfl dX10_writeNumber_20 ?_
    refine zj_ifN_le (n := 24) (tgt := 45) rfl dX10_writeNumber_21 (by decide) (by omega) (fun c21 => by omega) (fun c21 => ?_)
    refine zj_aload0 (n := 25) rfl dX10_writeNumber_24 ?_
    refine zj_bipushN (v := 48) (n := 27) rfl dX10_writeNumber_25 (by decide) ?_
    refine zj_iload1 (n := 28) rfl dX10_writeNumber_27 ?_
    refine zj_iload3 (n := 29) rfl dX10_writeNumber_28 ?_
    refine zj_idivN (n := 30) rfl dX10_writeNumber_29 (by omega) (by omega) (by omega) ?_
    refine zj_bipushN (v := 10) (n := 32) rfl dX10_writeNumber_30 (by decide) ?_
    refine zj_iremN (n := 33) rfl dX10_writeNumber_32 (by omega) (by omega) (by omega) ?_
    refine zj_iaddN (n := 34) rfl dX10_writeNumber_33 ?_
    refine zj_callV1 (n := 37) (a' := 0) (b' := 0) rfl dX10_writeNumber_34 zm_X10_476 (by decide) (by decide) rfl (Nat.le_of_ble_eq_true rfl) (Nat.le_of_ble_eq_true rfl) (Nat.le_of_ble_eq_true rfl) (Nat.le_of_ble_eq_true rfl) (jX10_write hO1 (by omega) (by have := wMn_1 (x := x) (i := i) (k := j) (s := s); omega) ?_)
    intro M2 hF2 hO2
    refine zj_iload3 (n := 38) rfl dX10_writeNumber_37 ?_
    refine zj_bipushN (v := 10) (n := 40) rfl dX10_writeNumber_38 (by decide) ?_
    refine zj_idivN (n := 41) rfl dX10_writeNumber_40 (by omega) (by omega) (by omega) ?_
    refine zj_istore3 (n := 42) rfl dX10_writeNumber_41 rfl (Nat.le_of_ble_eq_true rfl) ?_
    refine zj_goto (tgt := 20) dX10_writeNumber_42 (by decide) ?_
    rw [z10_s]
    exact hk M2 (hF1.tr hF2) hO2
  · intro M1 hF1 hO1
    have hz := @z10_end i
    refine zj_iload3 (n := 21) rfl dX10_writeNumber_20 ?_
    refine zj_ifN_le (n := 24) (tgt := 45) rfl dX10_writeNumber_21 (by decide) (by omega) (fun c21 => ?_) (fun c21 => by omega)
    exact zj_return dX10_writeNumber_45 rfl (h M1 hF1 hO1)
theorem jX10_writeNumber {s : Nat × (Nat → Nat)} {x : Nat} {Q : Option Value → zM → Prop} {X : String → zM → Prop} {M : zM} (hx : x < 10000) (hO : zMo M s) (hn : s.1 + 4 ≤ 200) (h : ∀ M', zGo M M' → zMo M' (wNum x 10 s) → Q none M') : zJ yX10_writeNumber cX10_writeNumber 4 none rX10_writeNumber Q X rX10_writeNumber.cells rX10_writeNumber.slots 0 (zEnt 4 [.ref 118, .int (nI x)]) [] M := by
  show zJ yX10_writeNumber cX10_writeNumber 4 none rX10_writeNumber Q X 0 0 0 [some (.ref 118), some (.int (nI x)), none, none] [] M
  refine zj_iconstN_1 (n := 1) rfl dX10_writeNumber_0 ?_
  refine zj_istore2 (n := 2) rfl dX10_writeNumber_1 rfl (Nat.le_of_ble_eq_true rfl) ?_
  refine zFind_rule (P := fun i => zJ yX10_writeNumber cX10_writeNumber 4 none rX10_writeNumber Q X 0 0 2 [some (.ref 118), some (.int (nI x)), some (.int (nI (10 ^ i))), none] [] M) (n := 4) (p := fun i => decide (x / 10 ^ i < 10)) ?_ ?_
  · intro i hi hf hkk
    obtain ⟨hp1, hp2⟩ := z10_lt (i := i) (by omega)
    have hq := Nat.div_le_self x (10 ^ i)
    refine zj_iload1 (n := 3) rfl dX10_writeNumber_2 ?_
    refine zj_iload2 (n := 4) rfl dX10_writeNumber_3 ?_
    refine zj_idivN (n := 5) rfl dX10_writeNumber_4 (by omega) (by omega) (by omega) ?_
    refine zj_bipushN (v := 10) (n := 7) rfl dX10_writeNumber_5 (by decide) ?_
    refine zj_icmpN_lt (n := 10) (tgt := 18) rfl dX10_writeNumber_7 (by decide) (by omega) (by omega) (fun c7 => ?_) (fun c7 => ?_)
    · refine zj_iload2 (n := 19) rfl dX10_writeNumber_18 ?_
      refine zj_istore3 (n := 20) rfl dX10_writeNumber_19 rfl (Nat.le_of_ble_eq_true rfl) ?_
      obtain ⟨hi3, eW⟩ := wMn_is (s := s) hx (by omega) (fun j hj => of_decide_eq_false (hf j hj))
      have hz := z_wn (X := X) hx hi3 hO hn (fun M' g1 g2 => h M' g1 (by rw [← eW]; exact g2))
      rw [show 10 ^ i / 10 ^ 0 = 10 ^ i from Nat.div_one _] at hz
      exact hz
    · refine zj_iload2 (n := 11) rfl dX10_writeNumber_10 ?_
      refine zj_bipushN (v := 10) (n := 13) rfl dX10_writeNumber_11 (by decide) ?_
      refine zj_imulN (n := 14) rfl dX10_writeNumber_13 ?_
      refine zj_istore2 (n := 15) rfl dX10_writeNumber_14 rfl (Nat.le_of_ble_eq_true rfl) ?_
      refine zj_goto (tgt := 2) dX10_writeNumber_15 (by decide) ?_
      rw [← Nat.pow_succ]
      exact hkk (decide_eq_false (by omega))
  · intro hf
    have h3 := of_decide_eq_false (hf 3 (by decide))
    rw [show (10 : Nat) ^ 3 = 1000 from rfl] at h3
    omega
