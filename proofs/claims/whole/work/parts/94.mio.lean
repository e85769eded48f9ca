/-! THE MODEL: input and output -/
def zGbI (j : Nat) : Bool := j == 0 || j == 17 || j == 19 || j == 20
def zGc (S : Nat → Bool) (M M' : zM) : Prop := (∀ a, a ≠ 118 → a ≠ 129 → M'.1 a = M.1 a) ∧ M'.2 = M.2 ∧ ∀ j, S j = false → M'.1 118 j = M.1 118 j
theorem zGc.rf {S : Nat → Bool} {M : zM} : zGc S M M := ⟨fun _ _ _ => rfl, rfl, fun _ _ => rfl⟩
theorem zGc.tr {S : Nat → Bool} {M M1 M2 : zM} (h : zGc S M M1) (h2 : zGc S M1 M2) : zGc S M M2 := ⟨fun a h3 h4 => (h2.1 a h3 h4).trans (h.1 a h3 h4), h2.2.1.trans h.2.1, fun j hj => (h2.2.2 j hj).trans (h.2.2 j hj)⟩
theorem zGc.put {S : Nat → Bool} {M M1 : zM} {j : Nat} {x : Int32} (h : zGc S M M1) (hj : S j = true) : zGc S M (zU M1.1 118 j x, M1.2) := h.tr ⟨fun a h1 _ => zU_off h1, rfl, fun i hi => by
  dsimp only
  by_cases q : i = j
  · subst q; rw [hi] at hj; cases hj
  · exact zU_nj q⟩
theorem zGc.byte {S : Nat → Bool} {M M1 : zM} {j : Nat} {x : Int32} (h : zGc S M M1) : zGc S M (zU M1.1 129 j x, M1.2) := h.tr ⟨fun a _ h1 => zU_off h1, rfl, fun i hi => by dsimp only; rw [zU_off (by decide)]⟩
theorem zGc.ra {S : Nat → Bool} {M M1 : zM} {v : zV} (h : zGc S M M1) (hA : zRA M 119 v) : zRA M1 119 v := ⟨by rw [h.2.1]; exact hA.1, hA.2.1, fun j hj => by rw [h.1 119 (by decide) (by decide)]; exact hA.2.2 j hj⟩
theorem zGc.mono {S T : Nat → Bool} {M M1 : zM} (h : zGc S M M1) (hs : ∀ j, T j = false → S j = false) : zGc T M M1 := ⟨h.1, h.2.1, fun j hj => h.2.2 j (hs j hj)⟩
def zG17 (j : Nat) : Bool := j == 17
abbrev zGb (M M' : zM) : Prop := zGc zGbI M M'
theorem zGc.b {M M1 : zM} (h : zGc zG17 M M1) : zGb M M1 := h.mono (fun j hj => by
  unfold zGbI at hj
  unfold zG17
  simp only [Bool.or_eq_false_iff] at hj
  exact hj.1.1.2)
theorem jX10_appendFour {n : Nat} {B : Nat → Nat} {x : Int32} {Q : Option Value → zM → Prop} {X : String → zM → Prop} {M : zM} (h17 : M.1 118 17 = nI n) (hB : zBf M 129 n B) (hn : n + 4 ≤ 1400) (h : ∀ M', zGc zG17 M M' → M'.1 118 17 = nI (n + 4) → zBf M' 129 (n + 4) (tfour B n x) → Q none M') : zJ yX10_appendFour cX10_appendFour 3 none rX10_appendFour Q X rX10_appendFour.cells rX10_appendFour.slots 0 (zEnt 3 [.ref 118, .int x]) [] M := by
  show zJ yX10_appendFour cX10_appendFour 3 none rX10_appendFour Q X 0 0 0 [some (.ref 118), some (.int x), none] [] M
  refine zj_bipushN (v := 24) (n := 2) rfl dX10_appendFour_0 (by decide) ?_
  refine zj_istore2 (n := 3) rfl dX10_appendFour_2 rfl (Nat.le_of_ble_eq_true rfl) ?_
  refine zj_iload2 (n := 4) rfl dX10_appendFour_3 ?_
  refine zj_ifN_lt (n := 7) (tgt := 36) rfl dX10_appendFour_4 (by decide) (by omega) ?_
  refine zj_aload0 (n := 8) rfl dX10_appendFour_7 ?_
  refine zj_getr (n := 11) (q := 129) rfl dX10_appendFour_8 zf_X10_46 rfl (by decide) (by decide) rfl ?_
  refine zj_aload0 (n := 12) rfl dX10_appendFour_11 ?_
  refine zj_getiN (e := n) (n := 15) rfl dX10_appendFour_12 zf_X10_213 rfl (by decide) (by decide) h17 ?_
  refine zj_iload1 (n := 16) rfl dX10_appendFour_15 ?_
  refine zj_iload2 (n := 17) rfl dX10_appendFour_16 ?_
  refine zj_ishr (n := 18) rfl dX10_appendFour_17 ?_
  refine zj_i2b (n := 19) rfl dX10_appendFour_18 ?_
  refine zj_bastoreN (n := 20) rfl dX10_appendFour_19 (by decide) (by decide) (by rw [show zLen 129 = 1400 from rfl]; omega) ?_
  refine zj_aload0 (n := 21) rfl dX10_appendFour_20 ?_
  refine zj_dupr (n := 22) rfl dX10_appendFour_21 ?_
  refine zj_getiN (e := n) (n := 25) rfl dX10_appendFour_22 zf_X10_213 rfl (by decide) (by decide) (by dsimp only; rw [zU_off (by decide)]; exact h17) ?_
  refine zj_iconstN_1 (n := 26) rfl dX10_appendFour_25 ?_
  refine zj_iaddN (n := 27) rfl dX10_appendFour_26 ?_
  refine zj_puti (n := 30) rfl dX10_appendFour_27 zp_X10_213 rfl (by decide) (by decide) ?_
  refine zj_gen (P := fun M1 => zGc zG17 M M1 ∧ M1.1 118 17 = nI (n + 1) ∧ zBf M1 129 (n + 1) (tpush (B) (n) (zby (x >>> (nI 24 &&& 31))))) ⟨(zGc.rf (M := M)).byte.put rfl, zUe, ?_⟩ ?_
  · exact (hB.push (zby_lt _) (zsx_i2b _)).cg (by dsimp only; rw [zU_off (by decide)])
  intro M1 h1_
  obtain ⟨hF1, hn1, hB1⟩ := h1_
  refine zj_iinc2 (v := nI 16) (n := 33) rfl dX10_appendFour_30 rfl (by decide) (Nat.le_of_ble_eq_true rfl) ?_
  refine zj_goto (tgt := 3) dX10_appendFour_33 (by decide) ?_
  refine zj_iload2 (n := 4) rfl dX10_appendFour_3 ?_
  refine zj_ifN_lt (n := 7) (tgt := 36) rfl dX10_appendFour_4 (by decide) (by omega) ?_
  refine zj_aload0 (n := 8) rfl dX10_appendFour_7 ?_
  refine zj_getr (n := 11) (q := 129) rfl dX10_appendFour_8 zf_X10_46 rfl (by decide) (by decide) rfl ?_
  refine zj_aload0 (n := 12) rfl dX10_appendFour_11 ?_
  refine zj_getiN (e := n + 1) (n := 15) rfl dX10_appendFour_12 zf_X10_213 rfl (by decide) (by decide) hn1 ?_
  refine zj_iload1 (n := 16) rfl dX10_appendFour_15 ?_
  refine zj_iload2 (n := 17) rfl dX10_appendFour_16 ?_
  refine zj_ishr (n := 18) rfl dX10_appendFour_17 ?_
  refine zj_i2b (n := 19) rfl dX10_appendFour_18 ?_
  refine zj_bastoreN (n := 20) rfl dX10_appendFour_19 (by decide) (by decide) (by rw [show zLen 129 = 1400 from rfl]; omega) ?_
  refine zj_aload0 (n := 21) rfl dX10_appendFour_20 ?_
  refine zj_dupr (n := 22) rfl dX10_appendFour_21 ?_
  refine zj_getiN (e := n + 1) (n := 25) rfl dX10_appendFour_22 zf_X10_213 rfl (by decide) (by decide) (by dsimp only; rw [zU_off (by decide)]; exact hn1) ?_
  refine zj_iconstN_1 (n := 26) rfl dX10_appendFour_25 ?_
  refine zj_iaddN (n := 27) rfl dX10_appendFour_26 ?_
  refine zj_puti (n := 30) rfl dX10_appendFour_27 zp_X10_213 rfl (by decide) (by decide) ?_
  refine zj_gen (P := fun M2 => zGc zG17 M M2 ∧ M2.1 118 17 = nI (n + 1 + 1) ∧ zBf M2 129 (n + 1 + 1) (tpush (tpush (B) (n) (zby (x >>> (nI 24 &&& 31)))) (n + 1) (zby (x >>> (nI 16 &&& 31))))) ⟨(hF1).byte.put rfl, zUe, ?_⟩ ?_
  · exact (hB1.push (zby_lt _) (zsx_i2b _)).cg (by dsimp only; rw [zU_off (by decide)])
  intro M2 h2_
  obtain ⟨hF2, hn2, hB2⟩ := h2_
  refine zj_iinc2 (v := nI 8) (n := 33) rfl dX10_appendFour_30 rfl (by decide) (Nat.le_of_ble_eq_true rfl) ?_
  refine zj_goto (tgt := 3) dX10_appendFour_33 (by decide) ?_
  refine zj_iload2 (n := 4) rfl dX10_appendFour_3 ?_
  refine zj_ifN_lt (n := 7) (tgt := 36) rfl dX10_appendFour_4 (by decide) (by omega) ?_
  refine zj_aload0 (n := 8) rfl dX10_appendFour_7 ?_
  refine zj_getr (n := 11) (q := 129) rfl dX10_appendFour_8 zf_X10_46 rfl (by decide) (by decide) rfl ?_
  refine zj_aload0 (n := 12) rfl dX10_appendFour_11 ?_
  refine zj_getiN (e := n + 1 + 1) (n := 15) rfl dX10_appendFour_12 zf_X10_213 rfl (by decide) (by decide) hn2 ?_
  refine zj_iload1 (n := 16) rfl dX10_appendFour_15 ?_
  refine zj_iload2 (n := 17) rfl dX10_appendFour_16 ?_
  refine zj_ishr (n := 18) rfl dX10_appendFour_17 ?_
  refine zj_i2b (n := 19) rfl dX10_appendFour_18 ?_
  refine zj_bastoreN (n := 20) rfl dX10_appendFour_19 (by decide) (by decide) (by rw [show zLen 129 = 1400 from rfl]; omega) ?_
  refine zj_aload0 (n := 21) rfl dX10_appendFour_20 ?_
  refine zj_dupr (n := 22) rfl dX10_appendFour_21 ?_
  refine zj_getiN (e := n + 1 + 1) (n := 25) rfl dX10_appendFour_22 zf_X10_213 rfl (by decide) (by decide) (by dsimp only; rw [zU_off (by decide)]; exact hn2) ?_
  refine zj_iconstN_1 (n := 26) rfl dX10_appendFour_25 ?_
  refine zj_iaddN (n := 27) rfl dX10_appendFour_26 ?_
  refine zj_puti (n := 30) rfl dX10_appendFour_27 zp_X10_213 rfl (by decide) (by decide) ?_
  refine zj_gen (P := fun M3 => zGc zG17 M M3 ∧ M3.1 118 17 = nI (n + 1 + 1 + 1) ∧ zBf M3 129 (n + 1 + 1 + 1) (tpush (tpush (tpush (B) (n) (zby (x >>> (nI 24 &&& 31)))) (n + 1) (zby (x >>> (nI 16 &&& 31)))) (n + 1 + 1) (zby (x >>> (nI 8 &&& 31))))) ⟨(hF2).byte.put rfl, zUe, ?_⟩ ?_
  · exact (hB2.push (zby_lt _) (zsx_i2b _)).cg (by dsimp only; rw [zU_off (by decide)])
  intro M3 h3_
  obtain ⟨hF3, hn3, hB3⟩ := h3_
  refine zj_iinc2 (v := nI 0) (n := 33) rfl dX10_appendFour_30 rfl (by decide) (Nat.le_of_ble_eq_true rfl) ?_
  refine zj_goto (tgt := 3) dX10_appendFour_33 (by decide) ?_
  refine zj_iload2 (n := 4) rfl dX10_appendFour_3 ?_
  refine zj_ifN_lt (n := 7) (tgt := 36) rfl dX10_appendFour_4 (by decide) (by omega) ?_
  refine zj_aload0 (n := 8) rfl dX10_appendFour_7 ?_
  refine zj_getr (n := 11) (q := 129) rfl dX10_appendFour_8 zf_X10_46 rfl (by decide) (by decide) rfl ?_
  refine zj_aload0 (n := 12) rfl dX10_appendFour_11 ?_
  refine zj_getiN (e := n + 1 + 1 + 1) (n := 15) rfl dX10_appendFour_12 zf_X10_213 rfl (by decide) (by decide) hn3 ?_
  refine zj_iload1 (n := 16) rfl dX10_appendFour_15 ?_
  refine zj_iload2 (n := 17) rfl dX10_appendFour_16 ?_
  refine zj_ishr (n := 18) rfl dX10_appendFour_17 ?_
  refine zj_i2b (n := 19) rfl dX10_appendFour_18 ?_
  refine zj_bastoreN (n := 20) rfl dX10_appendFour_19 (by decide) (by decide) (by rw [show zLen 129 = 1400 from rfl]; omega) ?_
  refine zj_aload0 (n := 21) rfl dX10_appendFour_20 ?_
  refine zj_dupr (n := 22) rfl dX10_appendFour_21 ?_
  refine zj_getiN (e := n + 1 + 1 + 1) (n := 25) rfl dX10_appendFour_22 zf_X10_213 rfl (by decide) (by decide) (by dsimp only; rw [zU_off (by decide)]; exact hn3) ?_
  refine zj_iconstN_1 (n := 26) rfl dX10_appendFour_25 ?_
  refine zj_iaddN (n := 27) rfl dX10_appendFour_26 ?_
  refine zj_puti (n := 30) rfl dX10_appendFour_27 zp_X10_213 rfl (by decide) (by decide) ?_
  refine zj_gen (P := fun M4 => zGc zG17 M M4 ∧ M4.1 118 17 = nI (n + 1 + 1 + 1 + 1) ∧ zBf M4 129 (n + 1 + 1 + 1 + 1) (tpush (tpush (tpush (tpush (B) (n) (zby (x >>> (nI 24 &&& 31)))) (n + 1) (zby (x >>> (nI 16 &&& 31)))) (n + 1 + 1) (zby (x >>> (nI 8 &&& 31)))) (n + 1 + 1 + 1) (zby (x >>> (nI 0 &&& 31))))) ⟨(hF3).byte.put rfl, zUe, ?_⟩ ?_
  · exact (hB3.push (zby_lt _) (zsx_i2b _)).cg (by dsimp only; rw [zU_off (by decide)])
  intro M4 h4_
  obtain ⟨hF4, hn4, hB4⟩ := h4_
  refine zj_iinc2 (v := (-8)) (n := 33) rfl dX10_appendFour_30 rfl (by decide) (Nat.le_of_ble_eq_true rfl) ?_
  refine zj_goto (tgt := 3) dX10_appendFour_33 (by decide) ?_
  refine zj_iload2 (n := 4) rfl dX10_appendFour_3 ?_
  refine zj_if_lt (n := 7) (tgt := 36) rfl dX10_appendFour_4 (by decide) (fun _ => ?_) (fun h => absurd h (by decide))
  exact zj_return dX10_appendFour_36 rfl (h M4 hF4 hn4 hB4)
theorem jX10_append {n : Nat} {B : Nat → Nat} {x1 x2 x3 x4 x5 : Int32} {Q : Option Value → zM → Prop} {X : String → zM → Prop} {M : zM} (h17 : M.1 118 17 = nI n) (hB : zBf M 129 n B) (hn : n ≤ 1400) (h : ∀ M', zGb M M' → M'.1 118 0 = nI (a_append n).1 → M'.1 118 17 = nI (if n + 20 ≤ 1400 then n + 20 else n) → zBf M' 129 (if n + 20 ≤ 1400 then n + 20 else n) (if n + 20 ≤ 1400 then tapp B n x1 x2 x3 x4 x5 else B) → Q (some (.int (a_append n).2)) M') : zJ yX10_append cX10_append 6 (some .int) rX10_append Q X rX10_append.cells rX10_append.slots 0 (zEnt 6 [.ref 118, .int x1, .int x2, .int x3, .int x4, .int x5]) [] M := by
  show zJ yX10_append cX10_append 6 (some .int) rX10_append Q X 0 0 0 [some (.ref 118), some (.int x1), some (.int x2), some (.int x3), some (.int x4), some (.int x5)] [] M
  refine zj_aload0 (n := 1) rfl dX10_append_0 ?_
  refine zj_aload0 (n := 2) rfl dX10_append_1 ?_
  refine zj_getiN (e := n) (n := 5) rfl dX10_append_2 zf_X10_213 rfl (by decide) (by decide) h17 ?_
  refine zj_bipushN (v := 20) (n := 7) rfl dX10_append_5 (by decide) ?_
  refine zj_iaddN (n := 8) rfl dX10_append_7 ?_
  refine zj_sipushN (v := 1400) (n := 11) rfl dX10_append_8 (by decide) ?_
  refine zj_icmpN_gt (n := 14) (tgt := 18) rfl dX10_append_11 (by decide) (by omega) (by omega) (fun c11 => ?_) (fun c11 => ?_)
  · refine zj_iconstN_0 (n := 19) rfl dX10_append_18 ?_
    refine zj_callV1 (n := 22) (a' := 0) (b' := 0) rfl dX10_append_19 zm_X10_216 (by decide) (by decide) rfl (Nat.le_of_ble_eq_true rfl) (Nat.le_of_ble_eq_true rfl) (Nat.le_of_ble_eq_true rfl) (Nat.le_of_ble_eq_true rfl) (jX10_passesQ (p := false) ?_)
    intro M0 hQ0 hF0_ hL0 h118 ht0
    have hF0 : zGb M M0 := ⟨fun a h1 _ => hF0_ a h1, hL0, fun j hj => h118 j (by unfold zGbI at hj; simp only [Bool.or_eq_false_iff, beq_eq_false_iff_ne] at hj; omega)⟩
    have hn0 : M0.1 118 17 = nI n := by rw [h118 17 (by decide)]; exact h17
    have hB0 : zBf M0 129 n B := hB.cg (hF0_ 129 (by decide))
    refine zj_ifN_ne (x := 0) (n := 25) (tgt := 27) rfl dX10_append_22 (by decide) (by decide) (fun h => absurd h (by decide)) (fun _ => ?_)
    refine zj_iconstN_0 (n := 26) rfl dX10_append_25 ?_
    refine zj_ireturn dX10_append_26 rfl rfl ?_
    have e : a_append n = (1, nI 0) := if_neg (by omega)
    rw [e, if_neg (by omega), if_neg (by omega)] at h
    exact h M0 hF0 ht0 hn0 hB0
  · refine zj_iconstN_1 (n := 15) rfl dX10_append_14 ?_
    refine zj_goto (tgt := 19) dX10_append_15 (by decide) ?_
    refine zj_callV1 (n := 22) (a' := 0) (b' := 0) rfl dX10_append_19 zm_X10_216 (by decide) (by decide) rfl (Nat.le_of_ble_eq_true rfl) (Nat.le_of_ble_eq_true rfl) (Nat.le_of_ble_eq_true rfl) (Nat.le_of_ble_eq_true rfl) (jX10_passesQ (p := true) ?_)
    intro M0 hQ0 hF0_ hL0 h118 ht0
    have hF0 : zGb M M0 := ⟨fun a h1 _ => hF0_ a h1, hL0, fun j hj => h118 j (by unfold zGbI at hj; simp only [Bool.or_eq_false_iff, beq_eq_false_iff_ne] at hj; omega)⟩
    have hn0 : M0.1 118 17 = nI n := by rw [h118 17 (by decide)]; exact h17
    have hB0 : zBf M0 129 n B := hB.cg (hF0_ 129 (by decide))
    refine zj_ifN_ne (x := 1) (n := 25) (tgt := 27) rfl dX10_append_22 (by decide) (by decide) (fun _ => ?_) (fun h => absurd h (by decide))
    refine zj_aload0 (n := 28) rfl dX10_append_27 ?_
    refine zj_iload1 (n := 29) rfl dX10_append_28 ?_
    refine zj_callV1 (n := 32) (a' := 0) (b' := 0) rfl dX10_append_29 zm_X10_220 (by decide) (by decide) rfl (Nat.le_of_ble_eq_true rfl) (Nat.le_of_ble_eq_true rfl) (Nat.le_of_ble_eq_true rfl) (Nat.le_of_ble_eq_true rfl) (jX10_appendFour hn0 hB0 (by omega) ?_)
    intro M1 hF1 hn1 hB1
    refine zj_aload0 (n := 33) rfl dX10_append_32 ?_
    refine zj_iload2 (n := 34) rfl dX10_append_33 ?_
    refine zj_callV1 (n := 37) (a' := 0) (b' := 0) rfl dX10_append_34 zm_X10_220 (by decide) (by decide) rfl (Nat.le_of_ble_eq_true rfl) (Nat.le_of_ble_eq_true rfl) (Nat.le_of_ble_eq_true rfl) (Nat.le_of_ble_eq_true rfl) (jX10_appendFour hn1 hB1 (by omega) ?_)
    intro M2 hF2 hn2 hB2
    refine zj_aload0 (n := 38) rfl dX10_append_37 ?_
    refine zj_iload3 (n := 39) rfl dX10_append_38 ?_
    refine zj_callV1 (n := 42) (a' := 0) (b' := 0) rfl dX10_append_39 zm_X10_220 (by decide) (by decide) rfl (Nat.le_of_ble_eq_true rfl) (Nat.le_of_ble_eq_true rfl) (Nat.le_of_ble_eq_true rfl) (Nat.le_of_ble_eq_true rfl) (jX10_appendFour hn2 hB2 (by omega) ?_)
    intro M3 hF3 hn3 hB3
    refine zj_aload0 (n := 43) rfl dX10_append_42 ?_
    refine zj_iload4 (n := 45) rfl dX10_append_43 ?_
    refine zj_callV1 (n := 48) (a' := 0) (b' := 0) rfl dX10_append_45 zm_X10_220 (by decide) (by decide) rfl (Nat.le_of_ble_eq_true rfl) (Nat.le_of_ble_eq_true rfl) (Nat.le_of_ble_eq_true rfl) (Nat.le_of_ble_eq_true rfl) (jX10_appendFour hn3 hB3 (by omega) ?_)
    intro M4 hF4 hn4 hB4
    refine zj_aload0 (n := 49) rfl dX10_append_48 ?_
    refine zj_iload5 (n := 51) rfl dX10_append_49 ?_
    refine zj_callV1 (n := 54) (a' := 0) (b' := 0) rfl dX10_append_51 zm_X10_220 (by decide) (by decide) rfl (Nat.le_of_ble_eq_true rfl) (Nat.le_of_ble_eq_true rfl) (Nat.le_of_ble_eq_true rfl) (Nat.le_of_ble_eq_true rfl) (jX10_appendFour hn4 hB4 (by omega) ?_)
    intro M5 hF5 hn5 hB5
    refine zj_aload0 (n := 55) rfl dX10_append_54 ?_
    refine zj_getiN (e := n + 4 + 4 + 4 + 4 + 4) (n := 58) rfl dX10_append_55 zf_X10_213 rfl (by decide) (by decide) hn5 ?_
    refine zj_ireturn dX10_append_58 rfl rfl ?_
    have e : a_append n = (0, nI (n + 20)) := if_pos (by omega)
    rw [e, if_pos (by omega), if_pos (by omega)] at h
    exact h M5 (hF0.tr (hF1.tr (hF2.tr (hF3.tr (hF4.tr hF5)))).b) ((hF1.tr (hF2.tr (hF3.tr (hF4.tr hF5)))).2.2 0 rfl |>.trans ht0) hn5 hB5
theorem jX10_truncate {n : Nat} {B : Nat → Nat} {x : Int32} {Q : Option Value → zM → Prop} {X : String → zM → Prop} {M : zM} (h17 : M.1 118 17 = nI n) (hn : n ≤ 1400) (h : ∀ M', zGb M M' → M'.1 129 = M.1 129 → M'.1 118 0 = nI (a_trunc n x).1 → M'.1 118 17 = nI (if zin x (n + 1) then xn x else n) → Q none M') : zJ yX10_truncate cX10_truncate 2 none rX10_truncate Q X rX10_truncate.cells rX10_truncate.slots 0 (zEnt 2 [.ref 118, .int x]) [] M := by
  show zJ yX10_truncate cX10_truncate 2 none rX10_truncate Q X 0 0 0 [some (.ref 118), some (.int x)] [] M
  refine zj_aload0 (n := 1) rfl dX10_truncate_0 ?_
  refine zj_iload1 (n := 2) rfl dX10_truncate_1 ?_
  refine zj_i2l (n := 3) rfl dX10_truncate_2 ?_
  refine zj_lconstN_0 (n := 4) rfl dX10_truncate_3 ?_
  refine zj_aload0 (n := 5) rfl dX10_truncate_4 ?_
  refine zj_getiN (e := n) (n := 8) rfl dX10_truncate_5 zf_X10_213 rfl (by decide) (by decide) h17 ?_
  refine zj_i2lN (n := 9) rfl dX10_truncate_8 (by omega) ?_
  refine zj_callS3 (n := 12) (a' := 0) (b' := 0) rfl dX10_truncate_9 zm_X10_62 (by decide) (Nat.le_of_ble_eq_true rfl) (Nat.le_of_ble_eq_true rfl) (Nat.le_of_ble_eq_true rfl) (Nat.le_of_ble_eq_true rfl) (jX10_inB (k := n) (by omega) ?_)
  refine zj_callV1 (n := 15) (a' := 0) (b' := 0) rfl dX10_truncate_12 zm_X10_216 (by decide) (by decide) rfl (Nat.le_of_ble_eq_true rfl) (Nat.le_of_ble_eq_true rfl) (Nat.le_of_ble_eq_true rfl) (Nat.le_of_ble_eq_true rfl) (jX10_passesQ ?_)
  intro M0 hQ0 hF0_ hL0 h118 ht0
  have hF0 : zGb M M0 := ⟨fun a h1 _ => hF0_ a h1, hL0, fun j hj => h118 j (by unfold zGbI at hj; simp only [Bool.or_eq_false_iff, beq_eq_false_iff_ne] at hj; omega)⟩
  have hn0 : M0.1 118 17 = nI n := by rw [h118 17 (by decide)]; exact h17
  refine zj_ifB_eq (n := 18) (tgt := 23) rfl dX10_truncate_15 (by decide) (fun c15 => ?_) (fun c15 => ?_)
  · refine zj_return dX10_truncate_23 rfl ?_
    have e : a_trunc n x = (1, nI 0) := by unfold a_trunc; rw [c15]; rfl
    rw [e, c15, if_neg (by decide)] at h
    exact h M0 hF0 (hF0_ 129 (by decide)) (by rw [ht0, c15]; rfl) hn0
  · refine zj_aload0 (n := 19) rfl dX10_truncate_18 ?_
    refine zj_iload1 (n := 20) rfl dX10_truncate_19 ?_
    refine zj_puti (n := 23) rfl dX10_truncate_20 zp_X10_213 rfl (by decide) (by decide) ?_
    refine zj_return dX10_truncate_23 rfl ?_
    have e : a_trunc n x = (0, nI 0) := by unfold a_trunc; rw [c15]; rfl
    rw [e, c15, if_pos rfl] at h
    obtain ⟨k, hk, rfl⟩ := (zin_iff (by omega)).mp c15
    rw [xn_at (by omega)] at h
    exact h _ (hF0.put rfl) (by dsimp only; rw [zU_off (by decide)]; exact hF0_ 129 (by decide)) (by dsimp only; rw [zU_nj (by decide), ht0, c15]; rfl) zUe
theorem zsx_let : ∀ b, b < 256 → decide ((97 : Int64).toInt ≤ (zsx b).toInt64.toInt ∧ (zsx b).toInt64.toInt ≤ (122 : Int64).toInt) = zLetter b := by decide +kernel
theorem jX10_inLb {b : Nat} {Q : Option Value → zM → Prop} {X : String → zM → Prop} {M : zM} (hb : b < 256) (h : Q (some (.int (zb (zLetter b)))) M) : zJ yX10_in cX10_in 6 (some .boolean) rX10_in Q X rX10_in.cells rX10_in.slots 0 (zEnt 6 [.long (zsx b).toInt64, .long (lN 97), .long (lN 122)]) [] M := jX10_in (by rw [show (lN 97) = (97 : Int64) from rfl, show (lN 122) = (122 : Int64) from rfl, zsx_let b hb]; exact h)
def isw (n : Nat) (B : Nat → Nat) (k : Nat) : Bool := decide (0 < n) && !zAny k (fun i => !zLetter (B i))
theorem isw_no {n : Nat} {B : Nat → Nat} {k m : Nat} (h : isw n B k = false) (hm : k ≤ m) : isw n B m = false := by
  unfold isw at h ⊢
  cases q : decide (0 < n)
  · rfl
  · rw [q, Bool.true_and] at h
    have h2 : zAny k (fun i => !zLetter (B i)) = true := by revert h; cases zAny k (fun i => !zLetter (B i)) <;> simp
    obtain ⟨i, h3, h4⟩ := zAny_iff.mp h2
    rw [zAny_iff.mpr ⟨i, by omega, h4⟩]
    rfl
theorem isw_s {n : Nat} {B : Nat → Nat} {k : Nat} (h : isw n B k = true) : isw n B (k + 1) = zLetter (B k) := by
  unfold isw at h ⊢
  rw [Bool.and_eq_true] at h
  rw [h.1, Bool.true_and]
  have h2 : zAny k (fun i => !zLetter (B i)) = false := by have := h.2; revert this; cases zAny k (fun i => !zLetter (B i)) <;> simp
  cases q : zLetter (B k)
  · rw [zAny_iff.mpr ⟨k, by omega, by rw [q]; rfl⟩]; rfl
  · cases w : zAny (k + 1) (fun i => !zLetter (B i))
    · rfl
    · obtain ⟨i, h3, h4⟩ := zAny_iff.mp w
      by_cases e : i = k
      · subst e; rw [q] at h4; cases h4
      · rw [zAny_iff.mpr ⟨i, by omega, h4⟩] at h2; cases h2
theorem isw_is {n : Nat} {B : Nat → Nat} (h : isw n B n = true) : 0 < n ∧ ∀ i, i < n → zLetter (B (0 + i)) = true := by
  unfold isw at h
  rw [Bool.and_eq_true, decide_eq_true_eq] at h
  refine ⟨h.1, fun i hi => ?_⟩
  cases q : zLetter (B (0 + i))
  · have := h.2
    rw [zAny_iff.mpr ⟨i, hi, by rw [Nat.zero_add] at q; rw [q]; rfl⟩] at this
    cases this
  · rfl
theorem isw_vnm {n : Nat} {B : Nat → Nat} (h : isw n B n = false) : vnm B 0 n = 0 := by
  unfold isw at h
  cases q : decide (0 < n)
  · have : n = 0 := by have := of_decide_eq_false q; omega
    subst this
    rfl
  · rw [q, Bool.true_and] at h
    have h2 : zAny n (fun i => !zLetter (B i)) = true := by revert h; cases zAny n (fun i => !zLetter (B i)) <;> simp
    unfold vnm
    rw [if_neg]
    rintro ⟨-, w⟩
    have e : zAny (n - 0) (fun i => !zLetter (B (0 + i))) = zAny n (fun i => !zLetter (B i)) := by
      rw [Nat.sub_zero]
      congr 1
      funext i
      rw [Nat.zero_add]
    rw [e, h2] at w
    cases w
theorem z_isw {n : Nat} {B : Nat → Nat}  {Q : Option Value → zM → Prop} {X : String → zM → Prop} {M : zM} (h19 : M.1 118 19 = nI n) (hB : zBf M 129 n B) (hn : n ≤ 1400) (h : Q (some (.int (zb (isw n B n)))) M) : zJ yX10_isInputWord cX10_isInputWord 3 (some .boolean) rX10_isInputWord Q X 0 0 28 [some (.ref 118), some (.int (zb (isw n B 0))), some (.int (nI 0))] [] M := by
  refine zFind_rule (P := fun k => zJ yX10_isInputWord cX10_isInputWord 3 (some .boolean) rX10_isInputWord Q X 0 0 28 [some (.ref 118), some (.int (zb (isw n B k))), some (.int (nI k))] [] M) (n := n) (p := fun k => !isw n B k) ?_ ?_
  · intro k hk hf hkk
    refine zj_iload2 (n := 29) rfl dX10_isInputWord_28 ?_
    refine zj_aload0 (n := 30) rfl dX10_isInputWord_29 ?_
    refine zj_getiN (e := n) (n := 33) rfl dX10_isInputWord_30 zf_X10_236 rfl (by decide) (by decide) h19 ?_
    refine zj_icmpN_ge (n := 36) (tgt := 63) rfl dX10_isInputWord_33 (by decide) (by omega) (by omega) (fun c33 => by omega) (fun c33 => ?_)
    refine zj_iload1 (n := 37) rfl dX10_isInputWord_36 ?_
    refine zj_ifB_eq (n := 40) (tgt := 63) rfl dX10_isInputWord_37 (by decide) (fun c37 => ?_) (fun c37 => ?_)
    · refine zj_iload1 (n := 64) rfl dX10_isInputWord_63 ?_
      refine zj_ireturn dX10_isInputWord_64 rfl (zb_nar _) ?_
      rw [isw_no c37 (by omega)] at h
      rw [c37]
      exact h
    · refine zj_aload0 (n := 41) rfl dX10_isInputWord_40 ?_
      refine zj_getr (n := 44) (q := 129) rfl dX10_isInputWord_41 zf_X10_46 rfl (by decide) (by decide) rfl ?_
      refine zj_iload2 (n := 45) rfl dX10_isInputWord_44 ?_
      refine zj_baloadW (x := zsx (B k)) (n := 46) rfl dX10_isInputWord_45 (by decide) (by decide) (by rw [show zLen 129 = 1400 from rfl]; omega) (hB k (by omega)).2 ?_
      refine zj_i2l (n := 47) rfl dX10_isInputWord_46 ?_
      refine zj_ldc2N (v := 97) (n := 50) rfl dX10_isInputWord_47 zc_X10_245 ?_
      refine zj_ldc2N (v := 122) (n := 53) rfl dX10_isInputWord_50 zc_X10_247 ?_
      refine zj_callS3 (n := 56) (a' := 0) (b' := 0) rfl dX10_isInputWord_53 zm_X10_62 (by decide) (Nat.le_of_ble_eq_true rfl) (Nat.le_of_ble_eq_true rfl) (Nat.le_of_ble_eq_true rfl) (Nat.le_of_ble_eq_true rfl) (jX10_inLb (hB k (by omega)).1 ?_)
      refine zj_istore1 (n := 57) rfl dX10_isInputWord_56 rfl (Nat.le_of_ble_eq_true rfl) ?_
      refine zj_iincN2 (n := 60) rfl dX10_isInputWord_57 rfl (Nat.le_of_ble_eq_true rfl) ?_
      refine zj_goto (tgt := 28) dX10_isInputWord_60 (by decide) ?_
      have e := isw_s c37
      rw [← e]
      exact hkk (by rw [c37]; rfl)
  · intro hf
    refine zj_iload2 (n := 29) rfl dX10_isInputWord_28 ?_
    refine zj_aload0 (n := 30) rfl dX10_isInputWord_29 ?_
    refine zj_getiN (e := n) (n := 33) rfl dX10_isInputWord_30 zf_X10_236 rfl (by decide) (by decide) h19 ?_
    refine zj_icmpN_ge (n := 36) (tgt := 63) rfl dX10_isInputWord_33 (by decide) (by omega) (by omega) (fun c33 => ?_) (fun c33 => by omega)
    refine zj_iload1 (n := 64) rfl dX10_isInputWord_63 ?_
    refine zj_ireturn dX10_isInputWord_64 rfl (zb_nar _) ?_
    exact h
theorem jX10_isInputWord {n : Nat} {B : Nat → Nat}  {Q : Option Value → zM → Prop} {X : String → zM → Prop} {M : zM} (h17 : M.1 118 17 = nI n) (hB : zBf M 129 n B) (hn : n ≤ 1400) (h : ∀ M', zGf (fun j => j == 19 || j == 20) M M' → M'.1 118 20 = nI 0 → M'.1 118 19 = nI n → Q (some (.int (zb (isw n B n)))) M') : zJ yX10_isInputWord cX10_isInputWord 3 (some .boolean) rX10_isInputWord Q X rX10_isInputWord.cells rX10_isInputWord.slots 0 (zEnt 3 [.ref 118]) [] M := by
  show zJ yX10_isInputWord cX10_isInputWord 3 (some .boolean) rX10_isInputWord Q X 0 0 0 [some (.ref 118), none, none] [] M
  refine zj_aload0 (n := 1) rfl dX10_isInputWord_0 ?_
  refine zj_iconstN_0 (n := 2) rfl dX10_isInputWord_1 ?_
  refine zj_puti (n := 5) rfl dX10_isInputWord_2 zp_X10_230 rfl (by decide) (by decide) ?_
  refine zj_aload0 (n := 6) rfl dX10_isInputWord_5 ?_
  refine zj_aload0 (n := 7) rfl dX10_isInputWord_6 ?_
  refine zj_getiN (e := n) (n := 10) rfl dX10_isInputWord_7 zf_X10_213 rfl (by decide) (by decide) (by dsimp only; rw [zU_nj (by decide)]; exact h17) ?_
  refine zj_puti (n := 13) rfl dX10_isInputWord_10 zp_X10_236 rfl (by decide) (by decide) ?_
  refine zj_aload0 (n := 14) rfl dX10_isInputWord_13 ?_
  refine zj_getiN (e := n) (n := 17) rfl dX10_isInputWord_14 zf_X10_236 rfl (by decide) (by decide) (by dsimp only; rw [zU_eq]) ?_
  refine zj_ifN_le (n := 20) (tgt := 24) rfl dX10_isInputWord_17 (by decide) (by omega) (fun c17 => ?_) (fun c17 => ?_)
  · refine zj_iconstN_0 (n := 25) rfl dX10_isInputWord_24 ?_
    refine zj_istore1 (n := 26) rfl dX10_isInputWord_25 rfl (Nat.le_of_ble_eq_true rfl) ?_
    refine zj_iconstN_0 (n := 27) rfl dX10_isInputWord_26 ?_
    refine zj_istore2 (n := 28) rfl dX10_isInputWord_27 rfl (Nat.le_of_ble_eq_true rfl) ?_
    have e : zb (isw n B 0) = (nI 0) := by unfold isw; rw [decide_eq_false (by omega)]; rfl
    have hz := z_isw (X := X) (M := (zU (zU M.1 118 20 (nI 0)) 118 19 (nI n), M.2)) (by dsimp only; rw [zU_eq]) (hB.cg (by dsimp only; rw [zU_off (by decide), zU_off (by decide)])) hn (h _ ((zGf.rf.put rfl).put rfl) (by dsimp only; rw [zU_nj (by decide), zU_eq]) (by dsimp only; rw [zU_eq]))
    rw [e] at hz
    exact hz
  · refine zj_iconstN_1 (n := 21) rfl dX10_isInputWord_20 ?_
    refine zj_goto (tgt := 25) dX10_isInputWord_21 (by decide) ?_
    refine zj_istore1 (n := 26) rfl dX10_isInputWord_25 rfl (Nat.le_of_ble_eq_true rfl) ?_
    refine zj_iconstN_0 (n := 27) rfl dX10_isInputWord_26 ?_
    refine zj_istore2 (n := 28) rfl dX10_isInputWord_27 rfl (Nat.le_of_ble_eq_true rfl) ?_
    have e : zb (isw n B 0) = (nI 1) := by unfold isw; rw [decide_eq_true (by omega)]; rfl
    have hz := z_isw (X := X) (M := (zU (zU M.1 118 20 (nI 0)) 118 19 (nI n), M.2)) (by dsimp only; rw [zU_eq]) (hB.cg (by dsimp only; rw [zU_off (by decide), zU_off (by decide)])) hn (h _ ((zGf.rf.put rfl).put rfl) (by dsimp only; rw [zU_nj (by decide), zU_eq]) (by dsimp only; rw [zU_eq]))
    rw [e] at hz
    exact hz
