/-! THE MODEL'S PARSER, step by step -/
def zG5 : Nat → Bool := fun j => decide (19 ≤ j) && decide (j ≤ 24)
def zG2 : Nat → Bool := fun j => j == 23 || j == 24
theorem zG25 {M M1 : zM} (h : zGf zG2 M M1) : zGf zG5 M M1 := h.mono (fun j hj => by
  unfold zG5 at hj
  unfold zG2
  simp only [Bool.and_eq_false_iff, decide_eq_false_iff_not] at hj
  simp only [Bool.or_eq_false_iff, beq_eq_false_iff_ne]
  omega)
def zPm (M : zM) (n : Nat) (B : Nat → Nat) (s : zS) : Prop := zTt M n B ∧ M.1 118 23 = nI s.1 ∧ s.1 ≤ 5 ∧ (s.1 ≠ 0 → M.1 118 24 = nI s.2.1) ∧ (s.1 = 0 → M.1 118 24 = -1) ∧ ∃ e, e ≤ n ∧ zTm M n B e ∧ (s.1 = 0 → e = s.2.2)
theorem zPm.in_ {M : zM} {n : Nat} {B : Nat → Nat} {s : zS} (h : zPm M n B s) : sIn n s := fun q => by
  obtain ⟨-, -, -, -, -, e, h1, -, h3⟩ := h
  rw [← h3 q]; exact h1
theorem zPm.n {M : zM} {n : Nat} {B : Nat → Nat} {s : zS} (h : zPm M n B s) : n ≤ 1400 := h.1.1
theorem sRef_e {k q : Nat} {s : zS} (h : s.1 = 0) : sRef k q s = (k, q, 0) := if_pos h
theorem jX10_good {n : Nat} {B : Nat → Nat} {s : zS}  {Q : Option Value → zM → Prop} {X : String → zM → Prop} {M : zM} (hP : zPm M n B s) (h : Q (some (.int (zb (decide (s.1 = 0))))) M) : zJ yX10_good cX10_good 1 (some .boolean) rX10_good Q X rX10_good.cells rX10_good.slots 0 (zEnt 1 [.ref 118]) [] M := by
  have hn := hP.n
  obtain ⟨hT, hc, hc5, hpp, hpm, e, hen, hK, he⟩ := id hP
  have hts := tS_le (B := B) hen
  have hte := tE_le (B := B) hen
  have hk3 : tK B n e ≤ 3 := sK_le
  show zJ yX10_good cX10_good 1 (some .boolean) rX10_good Q X 0 0 0 [some (.ref 118)] [] M
  refine zj_aload0 (n := 1) rfl dX10_good_0 ?_
  refine zj_getiN (e := s.1) (n := 4) rfl dX10_good_1 zf_X10_223 rfl (by decide) (by decide) hc ?_
  refine zj_ifN_ne (n := 7) (tgt := 11) rfl dX10_good_4 (by decide) (by omega) (fun c4 => ?_) (fun c4 => ?_)
  · refine zj_iconstN_0 (n := 12) rfl dX10_good_11 ?_
    exact zj_ireturn dX10_good_12 rfl rfl (zQi h (by rw [decide_eq_false (by omega)]; rfl))
  · refine zj_iconstN_1 (n := 8) rfl dX10_good_7 ?_
    refine zj_goto (tgt := 12) dX10_good_8 (by decide) ?_
    exact zj_ireturn dX10_good_12 rfl rfl (zQi h (by rw [decide_eq_true (by omega)]; rfl))
theorem jX10_errs {n : Nat} {B : Nat → Nat} {s : zS} {k : Nat} {Q : Option Value → zM → Prop} {X : String → zM → Prop} {M : zM} (hP : zPm M n B s) (hk : 0 < k ∧ k ≤ 5) (h : ∀ M', zGf zG2 M M' → zPm M' n B (sRef k (tS B n s.2.2) s) → Q none M') : zJ yX10_errs cX10_errs 2 none rX10_errs Q X rX10_errs.cells rX10_errs.slots 0 (zEnt 2 [.ref 118, .int (nI k)]) [] M := by
  have hn := hP.n
  obtain ⟨hT, hc, hc5, hpp, hpm, e, hen, hK, he⟩ := id hP
  have hts := tS_le (B := B) hen
  have hte := tE_le (B := B) hen
  have hk3 : tK B n e ≤ 3 := sK_le
  show zJ yX10_errs cX10_errs 2 none rX10_errs Q X 0 0 0 [some (.ref 118), some (.int (nI k))] [] M
  refine zj_aload0 (n := 1) rfl dX10_errs_0 ?_
  refine zj_callV0 (n := 4) (a' := 0) (b' := 0) rfl dX10_errs_1 zm_X10_226 (by decide) (by decide) rfl (Nat.le_of_ble_eq_true rfl) (Nat.le_of_ble_eq_true rfl) (Nat.le_of_ble_eq_true rfl) (Nat.le_of_ble_eq_true rfl) (jX10_good hP ?_)
  refine zj_ifB_ne (n := 7) (tgt := 8) rfl dX10_errs_4 (by decide) (fun c4 => ?_) (fun c4 => ?_)
  · refine zj_aload0 (n := 9) rfl dX10_errs_8 ?_
    refine zj_iload1 (n := 10) rfl dX10_errs_9 ?_
    refine zj_puti (n := 13) rfl dX10_errs_10 zp_X10_223 rfl (by decide) (by decide) ?_
    refine zj_aload0 (n := 14) rfl dX10_errs_13 ?_
    refine zj_aload0 (n := 15) rfl dX10_errs_14 ?_
    refine zj_getiN (e := tS B n e) (n := 18) rfl dX10_errs_15 zf_X10_230 rfl (by decide) (by decide) (by dsimp only; rw [zU_nj (by decide)]; exact hK.2.1) ?_
    refine zj_puti (n := 21) rfl dX10_errs_18 zp_X10_50 rfl (by decide) (by decide) ?_
    refine zj_return dX10_errs_21 rfl ?_
    have q := of_decide_eq_true c4
    have e9 := he q
    subst e9
    rw [sRef_e q] at h
    exact h _ ((zGf.rf.put (j := 23) rfl).put (j := 24) rfl) ⟨hT.gf ((zGf.rf.put (S := zG2) (j := 23) rfl).put (j := 24) rfl) rfl, by dsimp only; rw [zU_nj (by decide), zU_eq], hk.2, fun _ => zUe, fun w => absurd w (by show k ≠ 0; omega), s.2.2, hen, hK.cg ((zGf.rf.put (S := zG2) (j := 23) rfl).put (j := 24) rfl) rfl rfl rfl rfl, fun w => absurd w (by show k ≠ 0; omega)⟩
  · refine zj_return dX10_errs_7 rfl ?_
    rw [sRef_no (of_decide_eq_false c4)] at h
    exact h M zGf.rf hP
theorem jX10_scanS {n : Nat} {B : Nat → Nat} {s : zS} {Q : Option Value → zM → Prop} {X : String → zM → Prop} {M : zM} (hP : zPm M n B s) (q : s.1 = 0) (h : ∀ M', zGf zG5 M M' → zPm M' n B (sNext B n s) → Q none M') : zJ yX10_scan cX10_scan 2 none rX10_scan Q X rX10_scan.cells rX10_scan.slots 0 (zEnt 2 [.ref 118]) [] M := by
  obtain ⟨hT, hc, hc5, hpp, hpm, e, hen, hK, he⟩ := id hP
  have e9 := he q
  subst e9
  refine jX10_scan0 hT hK.2.2.1 (tE_le hen).2.1 (fun M' hF hK' => h M' (hF.mono (fun j hj => ?_)) ?_)
  · unfold zG5 at hj
    simp only [Bool.and_eq_false_iff, decide_eq_false_iff_not] at hj
    simp only [Bool.or_eq_false_iff, beq_eq_false_iff_ne]
    omega
  · rw [sNext_e q]
    exact ⟨hT.gf hF rfl, by rw [hF.2.2 23 rfl, hc, q], Nat.zero_le _, fun w => absurd rfl w, fun _ => by rw [hF.2.2 24 rfl]; exact hpm q, _, (tE_le hen).2.1, hK', fun _ => rfl⟩
theorem jX10_goOn {n : Nat} {B : Nat → Nat} {s : zS}  {Q : Option Value → zM → Prop} {X : String → zM → Prop} {M : zM} (hP : zPm M n B s) (h : ∀ M', zGf zG5 M M' → zPm M' n B (sNext B n s) → Q none M') : zJ yX10_goOn cX10_goOn 1 none rX10_goOn Q X rX10_goOn.cells rX10_goOn.slots 0 (zEnt 1 [.ref 118]) [] M := by
  have hn := hP.n
  obtain ⟨hT, hc, hc5, hpp, hpm, e, hen, hK, he⟩ := id hP
  have hts := tS_le (B := B) hen
  have hte := tE_le (B := B) hen
  have hk3 : tK B n e ≤ 3 := sK_le
  show zJ yX10_goOn cX10_goOn 1 none rX10_goOn Q X 0 0 0 [some (.ref 118)] [] M
  refine zj_aload0 (n := 1) rfl dX10_goOn_0 ?_
  refine zj_callV0 (n := 4) (a' := 0) (b' := 0) rfl dX10_goOn_1 zm_X10_226 (by decide) (by decide) rfl (Nat.le_of_ble_eq_true rfl) (Nat.le_of_ble_eq_true rfl) (Nat.le_of_ble_eq_true rfl) (Nat.le_of_ble_eq_true rfl) (jX10_good hP ?_)
  refine zj_ifB_eq (n := 7) (tgt := 11) rfl dX10_goOn_4 (by decide) (fun c4 => ?_) (fun c4 => ?_)
  · refine zj_return dX10_goOn_11 rfl ?_
    rw [sNext_no (of_decide_eq_false c4)] at h
    exact h M zGf.rf hP
  · refine zj_aload0 (n := 8) rfl dX10_goOn_7 ?_
    refine zj_callV0 (n := 11) (a' := 0) (b' := 0) rfl dX10_goOn_8 zm_X10_257 (by decide) (by decide) rfl (Nat.le_of_ble_eq_true rfl) (Nat.le_of_ble_eq_true rfl) (Nat.le_of_ble_eq_true rfl) (Nat.le_of_ble_eq_true rfl) (jX10_scanS hP (of_decide_eq_true c4) ?_)
    intro M1 hF1 hP1
    exact zj_return dX10_goOn_11 rfl (h M1 hF1 hP1)
theorem z_it35 {i : Nat} {Q : Option Value → zM → Prop} {X : String → zM → Prop} {M : zM} (hi : i < 23) (h : Q (some (.int (nI 0))) M) : zJ yX10_isText cX10_isText 4 (some .boolean) rX10_isText Q X 0 0 35 [some (.ref 118), some (.ref (300 + i)), none, none] [] M := by
  have hl := kwl_le i hi
  have hl0 := kwl_gt i hi
  refine zj_iconstN_0 (n := 36) rfl dX10_isText_35 ?_
  refine zj_istore2 (n := 37) rfl dX10_isText_36 rfl (Nat.le_of_ble_eq_true rfl) ?_
  refine zj_iconstN_0 (n := 38) rfl dX10_isText_37 ?_
  refine zj_istore3 (n := 39) rfl dX10_isText_38 rfl (Nat.le_of_ble_eq_true rfl) ?_
  refine zj_iload3 (n := 40) rfl dX10_isText_39 ?_
  refine zj_aload1 (n := 41) rfl dX10_isText_40 ?_
  refine zj_callVK0 (n := 44) (a' := 0) (b' := 0) rfl dX10_isText_41 zm_X10_260 (by decide) hi rfl (Nat.le_of_ble_eq_true rfl) (Nat.le_of_ble_eq_true rfl) (Nat.le_of_ble_eq_true rfl) (Nat.le_of_ble_eq_true rfl) (jJ0_length (i := i) hi ?_)
  refine zj_icmpN_ge (n := 47) (tgt := 82) rfl dX10_isText_44 (by decide) (by omega) (by omega) (fun c44 => by omega) (fun c44 => ?_)
  refine zj_iload2 (n := 48) rfl dX10_isText_47 ?_
  refine zj_ifN_eq (n := 51) (tgt := 82) rfl dX10_isText_48 (by decide) (by omega) (fun _ => ?_) (fun h => absurd h (by decide))
  refine zj_iload2 (n := 83) rfl dX10_isText_82 ?_
  exact zj_ireturn dX10_isText_83 rfl rfl h
theorem z_it74 {i k : Nat} {Q : Option Value → zM → Prop} {X : String → zM → Prop} {M : zM} (hi : i < 23) (hk : k < 10) (h : Q (some (.int (nI 0))) M) : zJ yX10_isText cX10_isText 4 (some .boolean) rX10_isText Q X 0 0 74 [some (.ref 118), some (.ref (300 + i)), none, some (.int (nI k))] [] M := by
  have hl := kwl_le i hi
  have hl0 := kwl_gt i hi
  refine zj_iconstN_0 (n := 75) rfl dX10_isText_74 ?_
  refine zj_istore2 (n := 76) rfl dX10_isText_75 rfl (Nat.le_of_ble_eq_true rfl) ?_
  refine zj_iincN3 (n := 79) rfl dX10_isText_76 rfl (Nat.le_of_ble_eq_true rfl) ?_
  refine zj_goto (tgt := 39) dX10_isText_79 (by decide) ?_
  refine zj_iload3 (n := 40) rfl dX10_isText_39 ?_
  refine zj_aload1 (n := 41) rfl dX10_isText_40 ?_
  refine zj_callVK0 (n := 44) (a' := 0) (b' := 0) rfl dX10_isText_41 zm_X10_260 (by decide) hi rfl (Nat.le_of_ble_eq_true rfl) (Nat.le_of_ble_eq_true rfl) (Nat.le_of_ble_eq_true rfl) (Nat.le_of_ble_eq_true rfl) (jJ0_length (i := i) hi ?_)
  refine zj_icmpN_ge (n := 47) (tgt := 82) rfl dX10_isText_44 (by decide) (by omega) (by omega) (fun c44 => ?_) (fun c44 => ?_)
  · refine zj_iload2 (n := 83) rfl dX10_isText_82 ?_
    exact zj_ireturn dX10_isText_83 rfl rfl h
  · refine zj_iload2 (n := 48) rfl dX10_isText_47 ?_
    refine zj_ifN_eq (n := 51) (tgt := 82) rfl dX10_isText_48 (by decide) (by omega) (fun _ => ?_) (fun h => absurd h (by decide))
    refine zj_iload2 (n := 83) rfl dX10_isText_82 ?_
    exact zj_ireturn dX10_isText_83 rfl rfl h
theorem jX10_isText {n : Nat} {B : Nat → Nat} {s : zS} {i : Nat} {Q : Option Value → zM → Prop} {X : String → zM → Prop} {M : zM} (hP : zPm M n B s) (hi : i < 23) (h : Q (some (.int (zb (decide (s.1 = 0) && sAt B n s.2.2 i)))) M) : zJ yX10_isText cX10_isText 4 (some .boolean) rX10_isText Q X rX10_isText.cells rX10_isText.slots 0 (zEnt 4 [.ref 118, .ref (300 + i)]) [] M := by
  have hn := hP.n
  obtain ⟨hT, hc, hc5, hpp, hpm, e, hen, hK, he⟩ := id hP
  have hts := tS_le (B := B) hen
  have hte := tE_le (B := B) hen
  have hk3 : tK B n e ≤ 3 := sK_le
  have hl := kwl_le i hi
  have hl0 := kwl_gt i hi
  show zJ yX10_isText cX10_isText 4 (some .boolean) rX10_isText Q X 0 0 0 [some (.ref 118), some (.ref (300 + i)), none, none] [] M
  refine zj_aload0 (n := 1) rfl dX10_isText_0 ?_
  refine zj_callV0 (n := 4) (a' := 0) (b' := 0) rfl dX10_isText_1 zm_X10_226 (by decide) (by decide) rfl (Nat.le_of_ble_eq_true rfl) (Nat.le_of_ble_eq_true rfl) (Nat.le_of_ble_eq_true rfl) (Nat.le_of_ble_eq_true rfl) (jX10_good hP ?_)
  refine zj_ifB_eq (n := 7) (tgt := 35) rfl dX10_isText_4 (by decide) (fun c4 => ?_) (fun c4 => ?_)
  · exact z_it35 hi (zQi h (by
      rw [c4, Bool.false_and]
      rfl))
  · refine zj_aload0 (n := 8) rfl dX10_isText_7 ?_
    refine zj_getiN (e := tK B n e) (n := 11) rfl dX10_isText_8 zf_X10_242 rfl (by decide) (by decide) hK.1 ?_
    refine zj_iconstN_1 (n := 12) rfl dX10_isText_11 ?_
    refine zj_icmpN_ne (n := 15) (tgt := 35) rfl dX10_isText_12 (by decide) (by omega) (by omega) (fun c12 => ?_) (fun c12 => ?_)
    · exact z_it35 hi (zQi h (by
        have q := of_decide_eq_true c4
        have e9 := he q
        subst e9
        unfold sAt
        rw [beq_false_of_ne c12, Bool.false_and, Bool.and_false]
        rfl))
    · refine zj_aload0 (n := 16) rfl dX10_isText_15 ?_
      refine zj_getiN (e := tE B n e) (n := 19) rfl dX10_isText_16 zf_X10_236 rfl (by decide) (by decide) hK.2.2.1 ?_
      refine zj_aload0 (n := 20) rfl dX10_isText_19 ?_
      refine zj_getiN (e := tS B n e) (n := 23) rfl dX10_isText_20 zf_X10_230 rfl (by decide) (by decide) hK.2.1 ?_
      refine zj_isubN (n := 24) rfl dX10_isText_23 (by omega) ?_
      refine zj_aload1 (n := 25) rfl dX10_isText_24 ?_
      refine zj_callVK0 (n := 28) (a' := 0) (b' := 0) rfl dX10_isText_25 zm_X10_260 (by decide) hi rfl (Nat.le_of_ble_eq_true rfl) (Nat.le_of_ble_eq_true rfl) (Nat.le_of_ble_eq_true rfl) (Nat.le_of_ble_eq_true rfl) (jJ0_length (i := i) hi ?_)
      refine zj_icmpN_ne (n := 31) (tgt := 35) rfl dX10_isText_28 (by decide) (by omega) (by omega) (fun c28 => ?_) (fun c28 => ?_)
      · exact z_it35 hi (zQi h (by
          have q := of_decide_eq_true c4
          have e9 := he q
          subst e9
          unfold sAt
          rw [wis_len (by omega), Bool.and_false, Bool.and_false]
          rfl))
      · refine zj_iconstN_1 (n := 32) rfl dX10_isText_31 ?_
        refine zj_goto (tgt := 36) dX10_isText_32 (by decide) ?_
        refine zj_istore2 (n := 37) rfl dX10_isText_36 rfl (Nat.le_of_ble_eq_true rfl) ?_
        refine zj_iconstN_0 (n := 38) rfl dX10_isText_37 ?_
        refine zj_istore3 (n := 39) rfl dX10_isText_38 rfl (Nat.le_of_ble_eq_true rfl) ?_
        refine zFind_rule (P := fun k => zJ yX10_isText cX10_isText 4 (some .boolean) rX10_isText Q X 0 0 39 [some (.ref 118), some (.ref (300 + i)), some (.int (nI 1)), some (.int (nI k))] [] M) (n := kwl i) (p := fun k => !decide (B (tS B n e + k) = kwc i k)) ?_ ?_
        · intro k hkl hf hk
          refine zj_iload3 (n := 40) rfl dX10_isText_39 ?_
          refine zj_aload1 (n := 41) rfl dX10_isText_40 ?_
          refine zj_callVK0 (n := 44) (a' := 0) (b' := 0) rfl dX10_isText_41 zm_X10_260 (by decide) hi rfl (Nat.le_of_ble_eq_true rfl) (Nat.le_of_ble_eq_true rfl) (Nat.le_of_ble_eq_true rfl) (Nat.le_of_ble_eq_true rfl) (jJ0_length (i := i) hi ?_)
          refine zj_icmpN_ge (n := 47) (tgt := 82) rfl dX10_isText_44 (by decide) (by omega) (by omega) (fun c44 => by omega) (fun c44 => ?_)
          refine zj_iload2 (n := 48) rfl dX10_isText_47 ?_
          refine zj_ifN_eq (n := 51) (tgt := 82) rfl dX10_isText_48 (by decide) (by omega) (fun h => absurd h (by decide)) (fun _ => ?_)
          refine zj_aload0 (n := 52) rfl dX10_isText_51 ?_
          refine zj_getr (n := 55) (q := 129) rfl dX10_isText_52 zf_X10_46 rfl (by decide) (by decide) rfl ?_
          refine zj_aload0 (n := 56) rfl dX10_isText_55 ?_
          refine zj_getiN (e := tS B n e) (n := 59) rfl dX10_isText_56 zf_X10_230 rfl (by decide) (by decide) hK.2.1 ?_
          refine zj_iload3 (n := 60) rfl dX10_isText_59 ?_
          refine zj_iaddN (n := 61) rfl dX10_isText_60 ?_
          have hb9 := (hT.2.2 (tS B n e + k) (by omega)).1
          have hc9 := kwc_lt i hi k (by omega)
          refine zj_baloadW (x := zsx (B (tS B n e + k))) (n := 62) rfl dX10_isText_61 (by decide) (by decide) (by rw [show zLen 129 = 1400 from rfl]; omega) (hT.2.2 (tS B n e + k) (by omega)).2 ?_
          refine zj_aload1 (n := 63) rfl dX10_isText_62 ?_
          refine zj_iload3 (n := 64) rfl dX10_isText_63 ?_
          refine zj_callVK1 (n := 67) (a' := 0) (b' := 0) rfl dX10_isText_64 zm_X10_266 (by decide) hi rfl (Nat.le_of_ble_eq_true rfl) (Nat.le_of_ble_eq_true rfl) (Nat.le_of_ble_eq_true rfl) (Nat.le_of_ble_eq_true rfl) (jJ0_charAt (i := i) (j := k) hi (by omega) ?_)
          refine zj_icmp_ne (n := 70) (tgt := 74) rfl dX10_isText_67 (by decide) (fun c67 => ?_) (fun c67 => ?_)
          · refine zj_keep [true, true, false, true] ?_
            exact z_it74 (k := k) hi (by omega) (zQi h (by
              have q := of_decide_eq_true c4
              have e9 := he q
              subst e9
              unfold sAt
              rw [wis_no hkl (fun w => c67 ((zsx_eq hb9 hc9).mpr w)), Bool.and_false, Bool.and_false]
              rfl))
          · refine zj_iconstN_1 (n := 71) rfl dX10_isText_70 ?_
            refine zj_goto (tgt := 75) dX10_isText_71 (by decide) ?_
            refine zj_istore2 (n := 76) rfl dX10_isText_75 rfl (Nat.le_of_ble_eq_true rfl) ?_
            refine zj_iincN3 (n := 79) rfl dX10_isText_76 rfl (Nat.le_of_ble_eq_true rfl) ?_
            refine zj_goto (tgt := 39) dX10_isText_79 (by decide) ?_
            exact hk (by rw [decide_eq_true ((zsx_eq hb9 hc9).mp c67)]; rfl)
        · intro hf
          refine zj_iload3 (n := 40) rfl dX10_isText_39 ?_
          refine zj_aload1 (n := 41) rfl dX10_isText_40 ?_
          refine zj_callVK0 (n := 44) (a' := 0) (b' := 0) rfl dX10_isText_41 zm_X10_260 (by decide) hi rfl (Nat.le_of_ble_eq_true rfl) (Nat.le_of_ble_eq_true rfl) (Nat.le_of_ble_eq_true rfl) (Nat.le_of_ble_eq_true rfl) (jJ0_length (i := i) hi ?_)
          refine zj_icmpN_ge (n := 47) (tgt := 82) rfl dX10_isText_44 (by decide) (by omega) (by omega) (fun c44 => ?_) (fun c44 => by omega)
          refine zj_iload2 (n := 83) rfl dX10_isText_82 ?_
          exact zj_ireturn dX10_isText_83 rfl rfl (zQi h (by
  have q := of_decide_eq_true c4
  have e9 := he q
  subst e9
  unfold sAt
  rw [c4, c12, wis_yes (by omega) (fun j hj => by have := hf j hj; simpa using this)]
  rfl))
set_option maxRecDepth 100000 in
set_option maxHeartbeats 4000000 in
theorem jX10_isKeyword {n : Nat} {B : Nat → Nat} {s : zS}  {Q : Option Value → zM → Prop} {X : String → zM → Prop} {M : zM} (hP : zPm M n B s) (hs : s.1 = 0) (hk1 : tK B n s.2.2 = 1) (h : Q (some (.int (zb (sKw B n s.2.2)))) M) : zJ yX10_isKeyword cX10_isKeyword 2 (some .boolean) rX10_isKeyword Q X rX10_isKeyword.cells rX10_isKeyword.slots 0 (zEnt 2 [.ref 118]) [] M := by
  show zJ yX10_isKeyword cX10_isKeyword 2 (some .boolean) rX10_isKeyword Q X 0 0 0 [some (.ref 118), none] [] M
  refine zj_aload0 (n := 1) rfl dX10_isKeyword_0 ?_
  refine zj_ldcwS (i := 0) (n := 4) rfl dX10_isKeyword_1 rfl (by decide) rfl ?_
  refine zj_callV1 (n := 7) (a' := 0) (b' := 0) rfl dX10_isKeyword_4 zm_X10_272 (by decide) (by decide) rfl (Nat.le_of_ble_eq_true rfl) (Nat.le_of_ble_eq_true rfl) (Nat.le_of_ble_eq_true rfl) (Nat.le_of_ble_eq_true rfl) (jX10_isText (i := 0) hP (by decide) ?_)
  refine zj_ifB_ne (n := 10) (tgt := 120) rfl dX10_isKeyword_7 (by decide) (fun c7 => ?_) (fun c7 => ?_)
  · refine zj_iconstN_1 (n := 121) rfl dX10_isKeyword_120 ?_
    refine zj_goto (tgt := 125) dX10_isKeyword_121 (by decide) ?_
    refine zj_istore1 (n := 126) rfl dX10_isKeyword_125 rfl (Nat.le_of_ble_eq_true rfl) ?_
    refine zj_iload1 (n := 127) rfl dX10_isKeyword_126 ?_
    refine zj_ifN_ne (n := 130) (tgt := 240) rfl dX10_isKeyword_127 (by decide) (by omega) (fun _ => ?_) (fun h => absurd h (by decide))
    refine zj_iconstN_1 (n := 241) rfl dX10_isKeyword_240 ?_
    refine zj_goto (tgt := 245) dX10_isKeyword_241 (by decide) ?_
    exact zj_ireturn dX10_isKeyword_245 rfl rfl (zQi h (by rw [show sKw B n s.2.2 = true from zAny_iff.mpr ⟨0, by decide, by have := c7; rw [Bool.and_eq_true] at this; unfold sAt at this; rw [Bool.and_eq_true] at this; exact this.2.2⟩]; rfl))
  · refine zj_aload0 (n := 11) rfl dX10_isKeyword_10 ?_
    refine zj_ldcwS (i := 1) (n := 14) rfl dX10_isKeyword_11 rfl (by decide) rfl ?_
    refine zj_callV1 (n := 17) (a' := 0) (b' := 0) rfl dX10_isKeyword_14 zm_X10_272 (by decide) (by decide) rfl (Nat.le_of_ble_eq_true rfl) (Nat.le_of_ble_eq_true rfl) (Nat.le_of_ble_eq_true rfl) (Nat.le_of_ble_eq_true rfl) (jX10_isText (i := 1) hP (by decide) ?_)
    refine zj_ifB_ne (n := 20) (tgt := 120) rfl dX10_isKeyword_17 (by decide) (fun c17 => ?_) (fun c17 => ?_)
    · refine zj_iconstN_1 (n := 121) rfl dX10_isKeyword_120 ?_
      refine zj_goto (tgt := 125) dX10_isKeyword_121 (by decide) ?_
      refine zj_istore1 (n := 126) rfl dX10_isKeyword_125 rfl (Nat.le_of_ble_eq_true rfl) ?_
      refine zj_iload1 (n := 127) rfl dX10_isKeyword_126 ?_
      refine zj_ifN_ne (n := 130) (tgt := 240) rfl dX10_isKeyword_127 (by decide) (by omega) (fun _ => ?_) (fun h => absurd h (by decide))
      refine zj_iconstN_1 (n := 241) rfl dX10_isKeyword_240 ?_
      refine zj_goto (tgt := 245) dX10_isKeyword_241 (by decide) ?_
      exact zj_ireturn dX10_isKeyword_245 rfl rfl (zQi h (by rw [show sKw B n s.2.2 = true from zAny_iff.mpr ⟨1, by decide, by have := c17; rw [Bool.and_eq_true] at this; unfold sAt at this; rw [Bool.and_eq_true] at this; exact this.2.2⟩]; rfl))
    · refine zj_aload0 (n := 21) rfl dX10_isKeyword_20 ?_
      refine zj_ldcwS (i := 2) (n := 24) rfl dX10_isKeyword_21 rfl (by decide) rfl ?_
      refine zj_callV1 (n := 27) (a' := 0) (b' := 0) rfl dX10_isKeyword_24 zm_X10_272 (by decide) (by decide) rfl (Nat.le_of_ble_eq_true rfl) (Nat.le_of_ble_eq_true rfl) (Nat.le_of_ble_eq_true rfl) (Nat.le_of_ble_eq_true rfl) (jX10_isText (i := 2) hP (by decide) ?_)
      refine zj_ifB_ne (n := 30) (tgt := 120) rfl dX10_isKeyword_27 (by decide) (fun c27 => ?_) (fun c27 => ?_)
      · refine zj_iconstN_1 (n := 121) rfl dX10_isKeyword_120 ?_
        refine zj_goto (tgt := 125) dX10_isKeyword_121 (by decide) ?_
        refine zj_istore1 (n := 126) rfl dX10_isKeyword_125 rfl (Nat.le_of_ble_eq_true rfl) ?_
        refine zj_iload1 (n := 127) rfl dX10_isKeyword_126 ?_
        refine zj_ifN_ne (n := 130) (tgt := 240) rfl dX10_isKeyword_127 (by decide) (by omega) (fun _ => ?_) (fun h => absurd h (by decide))
        refine zj_iconstN_1 (n := 241) rfl dX10_isKeyword_240 ?_
        refine zj_goto (tgt := 245) dX10_isKeyword_241 (by decide) ?_
        exact zj_ireturn dX10_isKeyword_245 rfl rfl (zQi h (by rw [show sKw B n s.2.2 = true from zAny_iff.mpr ⟨2, by decide, by have := c27; rw [Bool.and_eq_true] at this; unfold sAt at this; rw [Bool.and_eq_true] at this; exact this.2.2⟩]; rfl))
      · refine zj_aload0 (n := 31) rfl dX10_isKeyword_30 ?_
        refine zj_ldcwS (i := 3) (n := 34) rfl dX10_isKeyword_31 rfl (by decide) rfl ?_
        refine zj_callV1 (n := 37) (a' := 0) (b' := 0) rfl dX10_isKeyword_34 zm_X10_272 (by decide) (by decide) rfl (Nat.le_of_ble_eq_true rfl) (Nat.le_of_ble_eq_true rfl) (Nat.le_of_ble_eq_true rfl) (Nat.le_of_ble_eq_true rfl) (jX10_isText (i := 3) hP (by decide) ?_)
        refine zj_ifB_ne (n := 40) (tgt := 120) rfl dX10_isKeyword_37 (by decide) (fun c37 => ?_) (fun c37 => ?_)
        · refine zj_iconstN_1 (n := 121) rfl dX10_isKeyword_120 ?_
          refine zj_goto (tgt := 125) dX10_isKeyword_121 (by decide) ?_
          refine zj_istore1 (n := 126) rfl dX10_isKeyword_125 rfl (Nat.le_of_ble_eq_true rfl) ?_
          refine zj_iload1 (n := 127) rfl dX10_isKeyword_126 ?_
          refine zj_ifN_ne (n := 130) (tgt := 240) rfl dX10_isKeyword_127 (by decide) (by omega) (fun _ => ?_) (fun h => absurd h (by decide))
          refine zj_iconstN_1 (n := 241) rfl dX10_isKeyword_240 ?_
          refine zj_goto (tgt := 245) dX10_isKeyword_241 (by decide) ?_
          exact zj_ireturn dX10_isKeyword_245 rfl rfl (zQi h (by rw [show sKw B n s.2.2 = true from zAny_iff.mpr ⟨3, by decide, by have := c37; rw [Bool.and_eq_true] at this; unfold sAt at this; rw [Bool.and_eq_true] at this; exact this.2.2⟩]; rfl))
        · refine zj_aload0 (n := 41) rfl dX10_isKeyword_40 ?_
          refine zj_ldcwS (i := 4) (n := 44) rfl dX10_isKeyword_41 rfl (by decide) rfl ?_
          refine zj_callV1 (n := 47) (a' := 0) (b' := 0) rfl dX10_isKeyword_44 zm_X10_272 (by decide) (by decide) rfl (Nat.le_of_ble_eq_true rfl) (Nat.le_of_ble_eq_true rfl) (Nat.le_of_ble_eq_true rfl) (Nat.le_of_ble_eq_true rfl) (jX10_isText (i := 4) hP (by decide) ?_)
          refine zj_ifB_ne (n := 50) (tgt := 120) rfl dX10_isKeyword_47 (by decide) (fun c47 => ?_) (fun c47 => ?_)
          · refine zj_iconstN_1 (n := 121) rfl dX10_isKeyword_120 ?_
            refine zj_goto (tgt := 125) dX10_isKeyword_121 (by decide) ?_
            refine zj_istore1 (n := 126) rfl dX10_isKeyword_125 rfl (Nat.le_of_ble_eq_true rfl) ?_
            refine zj_iload1 (n := 127) rfl dX10_isKeyword_126 ?_
            refine zj_ifN_ne (n := 130) (tgt := 240) rfl dX10_isKeyword_127 (by decide) (by omega) (fun _ => ?_) (fun h => absurd h (by decide))
            refine zj_iconstN_1 (n := 241) rfl dX10_isKeyword_240 ?_
            refine zj_goto (tgt := 245) dX10_isKeyword_241 (by decide) ?_
            exact zj_ireturn dX10_isKeyword_245 rfl rfl (zQi h (by rw [show sKw B n s.2.2 = true from zAny_iff.mpr ⟨4, by decide, by have := c47; rw [Bool.and_eq_true] at this; unfold sAt at this; rw [Bool.and_eq_true] at this; exact this.2.2⟩]; rfl))
          · refine zj_aload0 (n := 51) rfl dX10_isKeyword_50 ?_
            refine zj_ldcwS (i := 5) (n := 54) rfl dX10_isKeyword_51 rfl (by decide) rfl ?_
            refine zj_callV1 (n := 57) (a' := 0) (b' := 0) rfl dX10_isKeyword_54 zm_X10_272 (by decide) (by decide) rfl (Nat.le_of_ble_eq_true rfl) (Nat.le_of_ble_eq_true rfl) (Nat.le_of_ble_eq_true rfl) (Nat.le_of_ble_eq_true rfl) (jX10_isText (i := 5) hP (by decide) ?_)
            refine zj_ifB_ne (n := 60) (tgt := 120) rfl dX10_isKeyword_57 (by decide) (fun c57 => ?_) (fun c57 => ?_)
            · refine zj_iconstN_1 (n := 121) rfl dX10_isKeyword_120 ?_
              refine zj_goto (tgt := 125) dX10_isKeyword_121 (by decide) ?_
              refine zj_istore1 (n := 126) rfl dX10_isKeyword_125 rfl (Nat.le_of_ble_eq_true rfl) ?_
              refine zj_iload1 (n := 127) rfl dX10_isKeyword_126 ?_
              refine zj_ifN_ne (n := 130) (tgt := 240) rfl dX10_isKeyword_127 (by decide) (by omega) (fun _ => ?_) (fun h => absurd h (by decide))
              refine zj_iconstN_1 (n := 241) rfl dX10_isKeyword_240 ?_
              refine zj_goto (tgt := 245) dX10_isKeyword_241 (by decide) ?_
              exact zj_ireturn dX10_isKeyword_245 rfl rfl (zQi h (by rw [show sKw B n s.2.2 = true from zAny_iff.mpr ⟨5, by decide, by have := c57; rw [Bool.and_eq_true] at this; unfold sAt at this; rw [Bool.and_eq_true] at this; exact this.2.2⟩]; rfl))
            · refine zj_aload0 (n := 61) rfl dX10_isKeyword_60 ?_
              refine zj_ldcwS (i := 6) (n := 64) rfl dX10_isKeyword_61 rfl (by decide) rfl ?_
              refine zj_callV1 (n := 67) (a' := 0) (b' := 0) rfl dX10_isKeyword_64 zm_X10_272 (by decide) (by decide) rfl (Nat.le_of_ble_eq_true rfl) (Nat.le_of_ble_eq_true rfl) (Nat.le_of_ble_eq_true rfl) (Nat.le_of_ble_eq_true rfl) (jX10_isText (i := 6) hP (by decide) ?_)
              refine zj_ifB_ne (n := 70) (tgt := 120) rfl dX10_isKeyword_67 (by decide) (fun c67 => ?_) (fun c67 => ?_)
              · refine zj_iconstN_1 (n := 121) rfl dX10_isKeyword_120 ?_
                refine zj_goto (tgt := 125) dX10_isKeyword_121 (by decide) ?_
                refine zj_istore1 (n := 126) rfl dX10_isKeyword_125 rfl (Nat.le_of_ble_eq_true rfl) ?_
                refine zj_iload1 (n := 127) rfl dX10_isKeyword_126 ?_
                refine zj_ifN_ne (n := 130) (tgt := 240) rfl dX10_isKeyword_127 (by decide) (by omega) (fun _ => ?_) (fun h => absurd h (by decide))
                refine zj_iconstN_1 (n := 241) rfl dX10_isKeyword_240 ?_
                refine zj_goto (tgt := 245) dX10_isKeyword_241 (by decide) ?_
                exact zj_ireturn dX10_isKeyword_245 rfl rfl (zQi h (by rw [show sKw B n s.2.2 = true from zAny_iff.mpr ⟨6, by decide, by have := c67; rw [Bool.and_eq_true] at this; unfold sAt at this; rw [Bool.and_eq_true] at this; exact this.2.2⟩]; rfl))
              · refine zj_aload0 (n := 71) rfl dX10_isKeyword_70 ?_
                refine zj_ldcwS (i := 7) (n := 74) rfl dX10_isKeyword_71 rfl (by decide) rfl ?_
                refine zj_callV1 (n := 77) (a' := 0) (b' := 0) rfl dX10_isKeyword_74 zm_X10_272 (by decide) (by decide) rfl (Nat.le_of_ble_eq_true rfl) (Nat.le_of_ble_eq_true rfl) (Nat.le_of_ble_eq_true rfl) (Nat.le_of_ble_eq_true rfl) (jX10_isText (i := 7) hP (by decide) ?_)
                refine zj_ifB_ne (n := 80) (tgt := 120) rfl dX10_isKeyword_77 (by decide) (fun c77 => ?_) (fun c77 => ?_)
                · refine zj_iconstN_1 (n := 121) rfl dX10_isKeyword_120 ?_
                  refine zj_goto (tgt := 125) dX10_isKeyword_121 (by decide) ?_
                  refine zj_istore1 (n := 126) rfl dX10_isKeyword_125 rfl (Nat.le_of_ble_eq_true rfl) ?_
                  refine zj_iload1 (n := 127) rfl dX10_isKeyword_126 ?_
                  refine zj_ifN_ne (n := 130) (tgt := 240) rfl dX10_isKeyword_127 (by decide) (by omega) (fun _ => ?_) (fun h => absurd h (by decide))
                  refine zj_iconstN_1 (n := 241) rfl dX10_isKeyword_240 ?_
                  refine zj_goto (tgt := 245) dX10_isKeyword_241 (by decide) ?_
                  exact zj_ireturn dX10_isKeyword_245 rfl rfl (zQi h (by rw [show sKw B n s.2.2 = true from zAny_iff.mpr ⟨7, by decide, by have := c77; rw [Bool.and_eq_true] at this; unfold sAt at this; rw [Bool.and_eq_true] at this; exact this.2.2⟩]; rfl))
                · refine zj_aload0 (n := 81) rfl dX10_isKeyword_80 ?_
                  refine zj_ldcwS (i := 8) (n := 84) rfl dX10_isKeyword_81 rfl (by decide) rfl ?_
                  refine zj_callV1 (n := 87) (a' := 0) (b' := 0) rfl dX10_isKeyword_84 zm_X10_272 (by decide) (by decide) rfl (Nat.le_of_ble_eq_true rfl) (Nat.le_of_ble_eq_true rfl) (Nat.le_of_ble_eq_true rfl) (Nat.le_of_ble_eq_true rfl) (jX10_isText (i := 8) hP (by decide) ?_)
                  refine zj_ifB_ne (n := 90) (tgt := 120) rfl dX10_isKeyword_87 (by decide) (fun c87 => ?_) (fun c87 => ?_)
                  · refine zj_iconstN_1 (n := 121) rfl dX10_isKeyword_120 ?_
                    refine zj_goto (tgt := 125) dX10_isKeyword_121 (by decide) ?_
                    refine zj_istore1 (n := 126) rfl dX10_isKeyword_125 rfl (Nat.le_of_ble_eq_true rfl) ?_
                    refine zj_iload1 (n := 127) rfl dX10_isKeyword_126 ?_
                    refine zj_ifN_ne (n := 130) (tgt := 240) rfl dX10_isKeyword_127 (by decide) (by omega) (fun _ => ?_) (fun h => absurd h (by decide))
                    refine zj_iconstN_1 (n := 241) rfl dX10_isKeyword_240 ?_
                    refine zj_goto (tgt := 245) dX10_isKeyword_241 (by decide) ?_
                    exact zj_ireturn dX10_isKeyword_245 rfl rfl (zQi h (by rw [show sKw B n s.2.2 = true from zAny_iff.mpr ⟨8, by decide, by have := c87; rw [Bool.and_eq_true] at this; unfold sAt at this; rw [Bool.and_eq_true] at this; exact this.2.2⟩]; rfl))
                  · refine zj_aload0 (n := 91) rfl dX10_isKeyword_90 ?_
                    refine zj_ldcwS (i := 9) (n := 94) rfl dX10_isKeyword_91 rfl (by decide) rfl ?_
                    refine zj_callV1 (n := 97) (a' := 0) (b' := 0) rfl dX10_isKeyword_94 zm_X10_272 (by decide) (by decide) rfl (Nat.le_of_ble_eq_true rfl) (Nat.le_of_ble_eq_true rfl) (Nat.le_of_ble_eq_true rfl) (Nat.le_of_ble_eq_true rfl) (jX10_isText (i := 9) hP (by decide) ?_)
                    refine zj_ifB_ne (n := 100) (tgt := 120) rfl dX10_isKeyword_97 (by decide) (fun c97 => ?_) (fun c97 => ?_)
                    · refine zj_iconstN_1 (n := 121) rfl dX10_isKeyword_120 ?_
                      refine zj_goto (tgt := 125) dX10_isKeyword_121 (by decide) ?_
                      refine zj_istore1 (n := 126) rfl dX10_isKeyword_125 rfl (Nat.le_of_ble_eq_true rfl) ?_
                      refine zj_iload1 (n := 127) rfl dX10_isKeyword_126 ?_
                      refine zj_ifN_ne (n := 130) (tgt := 240) rfl dX10_isKeyword_127 (by decide) (by omega) (fun _ => ?_) (fun h => absurd h (by decide))
                      refine zj_iconstN_1 (n := 241) rfl dX10_isKeyword_240 ?_
                      refine zj_goto (tgt := 245) dX10_isKeyword_241 (by decide) ?_
                      exact zj_ireturn dX10_isKeyword_245 rfl rfl (zQi h (by rw [show sKw B n s.2.2 = true from zAny_iff.mpr ⟨9, by decide, by have := c97; rw [Bool.and_eq_true] at this; unfold sAt at this; rw [Bool.and_eq_true] at this; exact this.2.2⟩]; rfl))
                    · refine zj_aload0 (n := 101) rfl dX10_isKeyword_100 ?_
                      refine zj_ldcwS (i := 10) (n := 104) rfl dX10_isKeyword_101 rfl (by decide) rfl ?_
                      refine zj_callV1 (n := 107) (a' := 0) (b' := 0) rfl dX10_isKeyword_104 zm_X10_272 (by decide) (by decide) rfl (Nat.le_of_ble_eq_true rfl) (Nat.le_of_ble_eq_true rfl) (Nat.le_of_ble_eq_true rfl) (Nat.le_of_ble_eq_true rfl) (jX10_isText (i := 10) hP (by decide) ?_)
                      refine zj_ifB_ne (n := 110) (tgt := 120) rfl dX10_isKeyword_107 (by decide) (fun c107 => ?_) (fun c107 => ?_)
                      · refine zj_iconstN_1 (n := 121) rfl dX10_isKeyword_120 ?_
                        refine zj_goto (tgt := 125) dX10_isKeyword_121 (by decide) ?_
                        refine zj_istore1 (n := 126) rfl dX10_isKeyword_125 rfl (Nat.le_of_ble_eq_true rfl) ?_
                        refine zj_iload1 (n := 127) rfl dX10_isKeyword_126 ?_
                        refine zj_ifN_ne (n := 130) (tgt := 240) rfl dX10_isKeyword_127 (by decide) (by omega) (fun _ => ?_) (fun h => absurd h (by decide))
                        refine zj_iconstN_1 (n := 241) rfl dX10_isKeyword_240 ?_
                        refine zj_goto (tgt := 245) dX10_isKeyword_241 (by decide) ?_
                        exact zj_ireturn dX10_isKeyword_245 rfl rfl (zQi h (by rw [show sKw B n s.2.2 = true from zAny_iff.mpr ⟨10, by decide, by have := c107; rw [Bool.and_eq_true] at this; unfold sAt at this; rw [Bool.and_eq_true] at this; exact this.2.2⟩]; rfl))
                      · refine zj_aload0 (n := 111) rfl dX10_isKeyword_110 ?_
                        refine zj_ldcwS (i := 11) (n := 114) rfl dX10_isKeyword_111 rfl (by decide) rfl ?_
                        refine zj_callV1 (n := 117) (a' := 0) (b' := 0) rfl dX10_isKeyword_114 zm_X10_272 (by decide) (by decide) rfl (Nat.le_of_ble_eq_true rfl) (Nat.le_of_ble_eq_true rfl) (Nat.le_of_ble_eq_true rfl) (Nat.le_of_ble_eq_true rfl) (jX10_isText (i := 11) hP (by decide) ?_)
                        refine zj_ifB_eq (n := 120) (tgt := 124) rfl dX10_isKeyword_117 (by decide) (fun c117 => ?_) (fun c117 => ?_)
                        · refine zj_iconstN_0 (n := 125) rfl dX10_isKeyword_124 ?_
                          refine zj_istore1 (n := 126) rfl dX10_isKeyword_125 rfl (Nat.le_of_ble_eq_true rfl) ?_
                          refine zj_iload1 (n := 127) rfl dX10_isKeyword_126 ?_
                          refine zj_ifN_ne (n := 130) (tgt := 240) rfl dX10_isKeyword_127 (by decide) (by omega) (fun h => absurd h (by decide)) (fun _ => ?_)
                          refine zj_aload0 (n := 131) rfl dX10_isKeyword_130 ?_
                          refine zj_ldcwS (i := 12) (n := 134) rfl dX10_isKeyword_131 rfl (by decide) rfl ?_
                          refine zj_callV1 (n := 137) (a' := 0) (b' := 0) rfl dX10_isKeyword_134 zm_X10_272 (by decide) (by decide) rfl (Nat.le_of_ble_eq_true rfl) (Nat.le_of_ble_eq_true rfl) (Nat.le_of_ble_eq_true rfl) (Nat.le_of_ble_eq_true rfl) (jX10_isText (i := 12) hP (by decide) ?_)
                          refine zj_ifB_ne (n := 140) (tgt := 240) rfl dX10_isKeyword_137 (by decide) (fun c137 => ?_) (fun c137 => ?_)
                          · refine zj_iconstN_1 (n := 241) rfl dX10_isKeyword_240 ?_
                            refine zj_goto (tgt := 245) dX10_isKeyword_241 (by decide) ?_
                            exact zj_ireturn dX10_isKeyword_245 rfl rfl (zQi h (by rw [show sKw B n s.2.2 = true from zAny_iff.mpr ⟨12, by decide, by have := c137; rw [Bool.and_eq_true] at this; unfold sAt at this; rw [Bool.and_eq_true] at this; exact this.2.2⟩]; rfl))
                          · refine zj_aload0 (n := 141) rfl dX10_isKeyword_140 ?_
                            refine zj_ldcwS (i := 13) (n := 144) rfl dX10_isKeyword_141 rfl (by decide) rfl ?_
                            refine zj_callV1 (n := 147) (a' := 0) (b' := 0) rfl dX10_isKeyword_144 zm_X10_272 (by decide) (by decide) rfl (Nat.le_of_ble_eq_true rfl) (Nat.le_of_ble_eq_true rfl) (Nat.le_of_ble_eq_true rfl) (Nat.le_of_ble_eq_true rfl) (jX10_isText (i := 13) hP (by decide) ?_)
                            refine zj_ifB_ne (n := 150) (tgt := 240) rfl dX10_isKeyword_147 (by decide) (fun c147 => ?_) (fun c147 => ?_)
                            · refine zj_iconstN_1 (n := 241) rfl dX10_isKeyword_240 ?_
                              refine zj_goto (tgt := 245) dX10_isKeyword_241 (by decide) ?_
                              exact zj_ireturn dX10_isKeyword_245 rfl rfl (zQi h (by rw [show sKw B n s.2.2 = true from zAny_iff.mpr ⟨13, by decide, by have := c147; rw [Bool.and_eq_true] at this; unfold sAt at this; rw [Bool.and_eq_true] at this; exact this.2.2⟩]; rfl))
                            · refine zj_aload0 (n := 151) rfl dX10_isKeyword_150 ?_
                              refine zj_ldcwS (i := 14) (n := 154) rfl dX10_isKeyword_151 rfl (by decide) rfl ?_
                              refine zj_callV1 (n := 157) (a' := 0) (b' := 0) rfl dX10_isKeyword_154 zm_X10_272 (by decide) (by decide) rfl (Nat.le_of_ble_eq_true rfl) (Nat.le_of_ble_eq_true rfl) (Nat.le_of_ble_eq_true rfl) (Nat.le_of_ble_eq_true rfl) (jX10_isText (i := 14) hP (by decide) ?_)
                              refine zj_ifB_ne (n := 160) (tgt := 240) rfl dX10_isKeyword_157 (by decide) (fun c157 => ?_) (fun c157 => ?_)
                              · refine zj_iconstN_1 (n := 241) rfl dX10_isKeyword_240 ?_
                                refine zj_goto (tgt := 245) dX10_isKeyword_241 (by decide) ?_
                                exact zj_ireturn dX10_isKeyword_245 rfl rfl (zQi h (by rw [show sKw B n s.2.2 = true from zAny_iff.mpr ⟨14, by decide, by have := c157; rw [Bool.and_eq_true] at this; unfold sAt at this; rw [Bool.and_eq_true] at this; exact this.2.2⟩]; rfl))
                              · refine zj_aload0 (n := 161) rfl dX10_isKeyword_160 ?_
                                refine zj_ldcwS (i := 15) (n := 164) rfl dX10_isKeyword_161 rfl (by decide) rfl ?_
                                refine zj_callV1 (n := 167) (a' := 0) (b' := 0) rfl dX10_isKeyword_164 zm_X10_272 (by decide) (by decide) rfl (Nat.le_of_ble_eq_true rfl) (Nat.le_of_ble_eq_true rfl) (Nat.le_of_ble_eq_true rfl) (Nat.le_of_ble_eq_true rfl) (jX10_isText (i := 15) hP (by decide) ?_)
                                refine zj_ifB_ne (n := 170) (tgt := 240) rfl dX10_isKeyword_167 (by decide) (fun c167 => ?_) (fun c167 => ?_)
                                · refine zj_iconstN_1 (n := 241) rfl dX10_isKeyword_240 ?_
                                  refine zj_goto (tgt := 245) dX10_isKeyword_241 (by decide) ?_
                                  exact zj_ireturn dX10_isKeyword_245 rfl rfl (zQi h (by rw [show sKw B n s.2.2 = true from zAny_iff.mpr ⟨15, by decide, by have := c167; rw [Bool.and_eq_true] at this; unfold sAt at this; rw [Bool.and_eq_true] at this; exact this.2.2⟩]; rfl))
                                · refine zj_aload0 (n := 171) rfl dX10_isKeyword_170 ?_
                                  refine zj_ldcwS (i := 16) (n := 174) rfl dX10_isKeyword_171 rfl (by decide) rfl ?_
                                  refine zj_callV1 (n := 177) (a' := 0) (b' := 0) rfl dX10_isKeyword_174 zm_X10_272 (by decide) (by decide) rfl (Nat.le_of_ble_eq_true rfl) (Nat.le_of_ble_eq_true rfl) (Nat.le_of_ble_eq_true rfl) (Nat.le_of_ble_eq_true rfl) (jX10_isText (i := 16) hP (by decide) ?_)
                                  refine zj_ifB_ne (n := 180) (tgt := 240) rfl dX10_isKeyword_177 (by decide) (fun c177 => ?_) (fun c177 => ?_)
                                  · refine zj_iconstN_1 (n := 241) rfl dX10_isKeyword_240 ?_
                                    refine zj_goto (tgt := 245) dX10_isKeyword_241 (by decide) ?_
                                    exact zj_ireturn dX10_isKeyword_245 rfl rfl (zQi h (by rw [show sKw B n s.2.2 = true from zAny_iff.mpr ⟨16, by decide, by have := c177; rw [Bool.and_eq_true] at this; unfold sAt at this; rw [Bool.and_eq_true] at this; exact this.2.2⟩]; rfl))
                                  · refine zj_aload0 (n := 181) rfl dX10_isKeyword_180 ?_
                                    refine zj_ldcwS (i := 17) (n := 184) rfl dX10_isKeyword_181 rfl (by decide) rfl ?_
                                    refine zj_callV1 (n := 187) (a' := 0) (b' := 0) rfl dX10_isKeyword_184 zm_X10_272 (by decide) (by decide) rfl (Nat.le_of_ble_eq_true rfl) (Nat.le_of_ble_eq_true rfl) (Nat.le_of_ble_eq_true rfl) (Nat.le_of_ble_eq_true rfl) (jX10_isText (i := 17) hP (by decide) ?_)
                                    refine zj_ifB_ne (n := 190) (tgt := 240) rfl dX10_isKeyword_187 (by decide) (fun c187 => ?_) (fun c187 => ?_)
                                    · refine zj_iconstN_1 (n := 241) rfl dX10_isKeyword_240 ?_
                                      refine zj_goto (tgt := 245) dX10_isKeyword_241 (by decide) ?_
                                      exact zj_ireturn dX10_isKeyword_245 rfl rfl (zQi h (by rw [show sKw B n s.2.2 = true from zAny_iff.mpr ⟨17, by decide, by have := c187; rw [Bool.and_eq_true] at this; unfold sAt at this; rw [Bool.and_eq_true] at this; exact this.2.2⟩]; rfl))
                                    · refine zj_aload0 (n := 191) rfl dX10_isKeyword_190 ?_
                                      refine zj_ldcwS (i := 18) (n := 194) rfl dX10_isKeyword_191 rfl (by decide) rfl ?_
                                      refine zj_callV1 (n := 197) (a' := 0) (b' := 0) rfl dX10_isKeyword_194 zm_X10_272 (by decide) (by decide) rfl (Nat.le_of_ble_eq_true rfl) (Nat.le_of_ble_eq_true rfl) (Nat.le_of_ble_eq_true rfl) (Nat.le_of_ble_eq_true rfl) (jX10_isText (i := 18) hP (by decide) ?_)
                                      refine zj_ifB_ne (n := 200) (tgt := 240) rfl dX10_isKeyword_197 (by decide) (fun c197 => ?_) (fun c197 => ?_)
                                      · refine zj_iconstN_1 (n := 241) rfl dX10_isKeyword_240 ?_
                                        refine zj_goto (tgt := 245) dX10_isKeyword_241 (by decide) ?_
                                        exact zj_ireturn dX10_isKeyword_245 rfl rfl (zQi h (by rw [show sKw B n s.2.2 = true from zAny_iff.mpr ⟨18, by decide, by have := c197; rw [Bool.and_eq_true] at this; unfold sAt at this; rw [Bool.and_eq_true] at this; exact this.2.2⟩]; rfl))
                                      · refine zj_aload0 (n := 201) rfl dX10_isKeyword_200 ?_
                                        refine zj_ldcwS (i := 19) (n := 204) rfl dX10_isKeyword_201 rfl (by decide) rfl ?_
                                        refine zj_callV1 (n := 207) (a' := 0) (b' := 0) rfl dX10_isKeyword_204 zm_X10_272 (by decide) (by decide) rfl (Nat.le_of_ble_eq_true rfl) (Nat.le_of_ble_eq_true rfl) (Nat.le_of_ble_eq_true rfl) (Nat.le_of_ble_eq_true rfl) (jX10_isText (i := 19) hP (by decide) ?_)
                                        refine zj_ifB_ne (n := 210) (tgt := 240) rfl dX10_isKeyword_207 (by decide) (fun c207 => ?_) (fun c207 => ?_)
                                        · refine zj_iconstN_1 (n := 241) rfl dX10_isKeyword_240 ?_
                                          refine zj_goto (tgt := 245) dX10_isKeyword_241 (by decide) ?_
                                          exact zj_ireturn dX10_isKeyword_245 rfl rfl (zQi h (by rw [show sKw B n s.2.2 = true from zAny_iff.mpr ⟨19, by decide, by have := c207; rw [Bool.and_eq_true] at this; unfold sAt at this; rw [Bool.and_eq_true] at this; exact this.2.2⟩]; rfl))
                                        · refine zj_aload0 (n := 211) rfl dX10_isKeyword_210 ?_
                                          refine zj_ldcwS (i := 20) (n := 214) rfl dX10_isKeyword_211 rfl (by decide) rfl ?_
                                          refine zj_callV1 (n := 217) (a' := 0) (b' := 0) rfl dX10_isKeyword_214 zm_X10_272 (by decide) (by decide) rfl (Nat.le_of_ble_eq_true rfl) (Nat.le_of_ble_eq_true rfl) (Nat.le_of_ble_eq_true rfl) (Nat.le_of_ble_eq_true rfl) (jX10_isText (i := 20) hP (by decide) ?_)
                                          refine zj_ifB_ne (n := 220) (tgt := 240) rfl dX10_isKeyword_217 (by decide) (fun c217 => ?_) (fun c217 => ?_)
                                          · refine zj_iconstN_1 (n := 241) rfl dX10_isKeyword_240 ?_
                                            refine zj_goto (tgt := 245) dX10_isKeyword_241 (by decide) ?_
                                            exact zj_ireturn dX10_isKeyword_245 rfl rfl (zQi h (by rw [show sKw B n s.2.2 = true from zAny_iff.mpr ⟨20, by decide, by have := c217; rw [Bool.and_eq_true] at this; unfold sAt at this; rw [Bool.and_eq_true] at this; exact this.2.2⟩]; rfl))
                                          · refine zj_aload0 (n := 221) rfl dX10_isKeyword_220 ?_
                                            refine zj_ldcwS (i := 21) (n := 224) rfl dX10_isKeyword_221 rfl (by decide) rfl ?_
                                            refine zj_callV1 (n := 227) (a' := 0) (b' := 0) rfl dX10_isKeyword_224 zm_X10_272 (by decide) (by decide) rfl (Nat.le_of_ble_eq_true rfl) (Nat.le_of_ble_eq_true rfl) (Nat.le_of_ble_eq_true rfl) (Nat.le_of_ble_eq_true rfl) (jX10_isText (i := 21) hP (by decide) ?_)
                                            refine zj_ifB_ne (n := 230) (tgt := 240) rfl dX10_isKeyword_227 (by decide) (fun c227 => ?_) (fun c227 => ?_)
                                            · refine zj_iconstN_1 (n := 241) rfl dX10_isKeyword_240 ?_
                                              refine zj_goto (tgt := 245) dX10_isKeyword_241 (by decide) ?_
                                              exact zj_ireturn dX10_isKeyword_245 rfl rfl (zQi h (by rw [show sKw B n s.2.2 = true from zAny_iff.mpr ⟨21, by decide, by have := c227; rw [Bool.and_eq_true] at this; unfold sAt at this; rw [Bool.and_eq_true] at this; exact this.2.2⟩]; rfl))
                                            · refine zj_aload0 (n := 231) rfl dX10_isKeyword_230 ?_
                                              refine zj_ldcwS (i := 22) (n := 234) rfl dX10_isKeyword_231 rfl (by decide) rfl ?_
                                              refine zj_callV1 (n := 237) (a' := 0) (b' := 0) rfl dX10_isKeyword_234 zm_X10_272 (by decide) (by decide) rfl (Nat.le_of_ble_eq_true rfl) (Nat.le_of_ble_eq_true rfl) (Nat.le_of_ble_eq_true rfl) (Nat.le_of_ble_eq_true rfl) (jX10_isText (i := 22) hP (by decide) ?_)
                                              refine zj_ifB_eq (n := 240) (tgt := 244) rfl dX10_isKeyword_237 (by decide) (fun c237 => ?_) (fun c237 => ?_)
                                              · refine zj_iconstN_0 (n := 245) rfl dX10_isKeyword_244 ?_
                                                refine zj_ireturn dX10_isKeyword_245 rfl rfl ?_
                                                have hno : ∀ {j : Nat}, (decide (s.1 = 0) && sAt B n s.2.2 j) = false → wis B (tS B n s.2.2) (tE B n s.2.2) j = false := fun {j} w => by
                                                  unfold sAt at w
                                                  rw [decide_eq_true hs, hk1, Bool.true_and] at w
                                                  simpa using w
                                                have hz : sKw B n s.2.2 = false := by
                                                  cases w : sKw B n s.2.2
                                                  · rfl
                                                  · obtain ⟨j, h3, h4⟩ := zAny_iff.mp w
                                                    have : wis B (tS B n s.2.2) (tE B n s.2.2) j = false := by
                                                      have h5 : j = 0 ∨ j = 1 ∨ j = 2 ∨ j = 3 ∨ j = 4 ∨ j = 5 ∨ j = 6 ∨ j = 7 ∨ j = 8 ∨ j = 9 ∨ j = 10 ∨ j = 11 ∨ j = 12 ∨ j = 13 ∨ j = 14 ∨ j = 15 ∨ j = 16 ∨ j = 17 ∨ j = 18 ∨ j = 19 ∨ j = 20 ∨ j = 21 ∨ j = 22 := by omega
                                                      rcases h5 with rfl | rfl | rfl | rfl | rfl | rfl | rfl | rfl | rfl | rfl | rfl | rfl | rfl | rfl | rfl | rfl | rfl | rfl | rfl | rfl | rfl | rfl | rfl
                                                      · exact hno c7
                                                      · exact hno c17
                                                      · exact hno c27
                                                      · exact hno c37
                                                      · exact hno c47
                                                      · exact hno c57
                                                      · exact hno c67
                                                      · exact hno c77
                                                      · exact hno c87
                                                      · exact hno c97
                                                      · exact hno c107
                                                      · exact hno c117
                                                      · exact hno c137
                                                      · exact hno c147
                                                      · exact hno c157
                                                      · exact hno c167
                                                      · exact hno c177
                                                      · exact hno c187
                                                      · exact hno c197
                                                      · exact hno c207
                                                      · exact hno c217
                                                      · exact hno c227
                                                      · exact hno c237
                                                    rw [this] at h4
                                                    cases h4
                                                exact (zQi h (by rw [hz]; rfl))
                                              · refine zj_iconstN_1 (n := 241) rfl dX10_isKeyword_240 ?_
                                                refine zj_goto (tgt := 245) dX10_isKeyword_241 (by decide) ?_
                                                exact zj_ireturn dX10_isKeyword_245 rfl rfl (zQi h (by rw [show sKw B n s.2.2 = true from zAny_iff.mpr ⟨22, by decide, by have := c237; rw [Bool.and_eq_true] at this; unfold sAt at this; rw [Bool.and_eq_true] at this; exact this.2.2⟩]; rfl))
                        · refine zj_iconstN_1 (n := 121) rfl dX10_isKeyword_120 ?_
                          refine zj_goto (tgt := 125) dX10_isKeyword_121 (by decide) ?_
                          refine zj_istore1 (n := 126) rfl dX10_isKeyword_125 rfl (Nat.le_of_ble_eq_true rfl) ?_
                          refine zj_iload1 (n := 127) rfl dX10_isKeyword_126 ?_
                          refine zj_ifN_ne (n := 130) (tgt := 240) rfl dX10_isKeyword_127 (by decide) (by omega) (fun _ => ?_) (fun h => absurd h (by decide))
                          refine zj_iconstN_1 (n := 241) rfl dX10_isKeyword_240 ?_
                          refine zj_goto (tgt := 245) dX10_isKeyword_241 (by decide) ?_
                          exact zj_ireturn dX10_isKeyword_245 rfl rfl (zQi h (by rw [show sKw B n s.2.2 = true from zAny_iff.mpr ⟨11, by decide, by have := c117; rw [Bool.and_eq_true] at this; unfold sAt at this; rw [Bool.and_eq_true] at this; exact this.2.2⟩]; rfl))
theorem jX10_word {n : Nat} {B : Nat → Nat} {s : zS} {i : Nat} {Q : Option Value → zM → Prop} {X : String → zM → Prop} {M : zM} (hP : zPm M n B s) (hi : i < 23) (h : ∀ M', zGf zG5 M M' → zPm M' n B (sTake B n i s) → Q none M') : zJ yX10_word cX10_word 2 none rX10_word Q X rX10_word.cells rX10_word.slots 0 (zEnt 2 [.ref 118, .ref (300 + i)]) [] M := by
  show zJ yX10_word cX10_word 2 none rX10_word Q X 0 0 0 [some (.ref 118), some (.ref (300 + i))] [] M
  refine zj_aload0 (n := 1) rfl dX10_word_0 ?_
  refine zj_aload1 (n := 2) rfl dX10_word_1 ?_
  refine zj_callV1 (n := 5) (a' := 0) (b' := 0) rfl dX10_word_2 zm_X10_272 (by decide) (by decide) rfl (Nat.le_of_ble_eq_true rfl) (Nat.le_of_ble_eq_true rfl) (Nat.le_of_ble_eq_true rfl) (Nat.le_of_ble_eq_true rfl) (jX10_isText hP hi ?_)
  refine zj_ifB_ne (n := 8) (tgt := 13) rfl dX10_word_5 (by decide) (fun c5 => ?_) (fun c5 => ?_)
  · have hP2 : zPm M n B (sErr 1 B n (!sAt B n s.2.2 i) s) := by
      rw [Bool.and_eq_true] at c5
      rw [sErr_eq (by rw [c5.2]; rfl)]
      exact hP
    refine zj_aload0 (n := 14) rfl dX10_word_13 ?_
    refine zj_callV0 (n := 17) (a' := 0) (b' := 0) rfl dX10_word_14 zm_X10_320 (by decide) (by decide) rfl (Nat.le_of_ble_eq_true rfl) (Nat.le_of_ble_eq_true rfl) (Nat.le_of_ble_eq_true rfl) (Nat.le_of_ble_eq_true rfl) (jX10_goOn (s := sErr 1 B n (!sAt B n s.2.2 i) s) hP2 ?_)
    intro M3 hF3 hP3
    exact zj_return dX10_word_17 rfl (h M3 hF3 hP3)
  · refine zj_aload0 (n := 9) rfl dX10_word_8 ?_
    refine zj_iconstN_1 (n := 10) rfl dX10_word_9 ?_
    refine zj_callV1 (n := 13) (a' := 0) (b' := 0) rfl dX10_word_10 zm_X10_317 (by decide) (by decide) rfl (Nat.le_of_ble_eq_true rfl) (Nat.le_of_ble_eq_true rfl) (Nat.le_of_ble_eq_true rfl) (Nat.le_of_ble_eq_true rfl) (jX10_errs hP (by decide) ?_)
    intro M1 hF1 hP1
    have hP2 : zPm M1 n B (sErr 1 B n (!sAt B n s.2.2 i) s) := by
      by_cases q : s.1 = 0
      · rw [decide_eq_true q, Bool.true_and] at c5
        rw [c5]
        exact hP1
      · rw [sErr_no q]; rw [sRef_no q] at hP1; exact hP1
    skip
    refine zj_aload0 (n := 14) rfl dX10_word_13 ?_
    refine zj_callV0 (n := 17) (a' := 0) (b' := 0) rfl dX10_word_14 zm_X10_320 (by decide) (by decide) rfl (Nat.le_of_ble_eq_true rfl) (Nat.le_of_ble_eq_true rfl) (Nat.le_of_ble_eq_true rfl) (Nat.le_of_ble_eq_true rfl) (jX10_goOn (s := sErr 1 B n (!sAt B n s.2.2 i) s) hP2 ?_)
    intro M3 hF3 hP3
    exact zj_return dX10_word_17 rfl (h M3 ((zG25 hF1).tr hF3) hP3)
theorem jX10_semicolon {n : Nat} {B : Nat → Nat} {s : zS}  {Q : Option Value → zM → Prop} {X : String → zM → Prop} {M : zM} (hP : zPm M n B s) (h : ∀ M', zGf zG5 M M' → zPm M' n B (sEnd B n s) → Q none M') : zJ yX10_semicolon cX10_semicolon 1 none rX10_semicolon Q X rX10_semicolon.cells rX10_semicolon.slots 0 (zEnt 1 [.ref 118]) [] M := by
  have hn := hP.n
  obtain ⟨hT, hc, hc5, hpp, hpm, e, hen, hK, he⟩ := id hP
  have hts := tS_le (B := B) hen
  have hte := tE_le (B := B) hen
  have hk3 : tK B n e ≤ 3 := sK_le
  show zJ yX10_semicolon cX10_semicolon 1 none rX10_semicolon Q X 0 0 0 [some (.ref 118)] [] M
  refine zj_aload0 (n := 1) rfl dX10_semicolon_0 ?_
  refine zj_callV0 (n := 4) (a' := 0) (b' := 0) rfl dX10_semicolon_1 zm_X10_226 (by decide) (by decide) rfl (Nat.le_of_ble_eq_true rfl) (Nat.le_of_ble_eq_true rfl) (Nat.le_of_ble_eq_true rfl) (Nat.le_of_ble_eq_true rfl) (jX10_good hP ?_)
  refine zj_ifB_eq (n := 7) (tgt := 29) rfl dX10_semicolon_4 (by decide) (fun c4 => ?_) (fun c4 => ?_)
  · have hP2 : zPm M n B (sErr 1 B n (!sSemi B n s.2.2) s) := by
      by_cases q : s.1 = 0
      · exact absurd q (of_decide_eq_false c4)
      · rw [sErr_no q]; exact hP
    refine zj_aload0 (n := 30) rfl dX10_semicolon_29 ?_
    refine zj_callV0 (n := 33) (a' := 0) (b' := 0) rfl dX10_semicolon_30 zm_X10_320 (by decide) (by decide) rfl (Nat.le_of_ble_eq_true rfl) (Nat.le_of_ble_eq_true rfl) (Nat.le_of_ble_eq_true rfl) (Nat.le_of_ble_eq_true rfl) (jX10_goOn (s := sErr 1 B n (!sSemi B n s.2.2) s) hP2 ?_)
    intro M3 hF3 hP3
    exact zj_return dX10_semicolon_33 rfl (h M3 hF3 hP3)
  · refine zj_aload0 (n := 8) rfl dX10_semicolon_7 ?_
    refine zj_getiN (e := tK B n e) (n := 11) rfl dX10_semicolon_8 zf_X10_242 rfl (by decide) (by decide) hK.1 ?_
    refine zj_iconstN_3 (n := 12) rfl dX10_semicolon_11 ?_
    refine zj_icmpN_ne (n := 15) (tgt := 24) rfl dX10_semicolon_12 (by decide) (by omega) (by omega) (fun c12 => ?_) (fun c12 => ?_)
    · have hbad : s.1 = 0 → sSemi B n s.2.2 = false := fun q => by
        have e9 := he q
        subst e9
        unfold sSemi
        rw [beq_false_of_ne c12]; rfl
      refine zj_aload0 (n := 25) rfl dX10_semicolon_24 ?_
      refine zj_iconstN_1 (n := 26) rfl dX10_semicolon_25 ?_
      refine zj_callV1 (n := 29) (a' := 0) (b' := 0) rfl dX10_semicolon_26 zm_X10_317 (by decide) (by decide) rfl (Nat.le_of_ble_eq_true rfl) (Nat.le_of_ble_eq_true rfl) (Nat.le_of_ble_eq_true rfl) (Nat.le_of_ble_eq_true rfl) (jX10_errs hP (by decide) ?_)
      intro M1 hF1 hP1
      have hP2 : zPm M1 n B (sErr 1 B n (!sSemi B n s.2.2) s) := by
        by_cases q : s.1 = 0
        · rw [hbad q]
          exact hP1
        · rw [sErr_no q]; rw [sRef_no q] at hP1; exact hP1
      skip
      refine zj_aload0 (n := 30) rfl dX10_semicolon_29 ?_
      refine zj_callV0 (n := 33) (a' := 0) (b' := 0) rfl dX10_semicolon_30 zm_X10_320 (by decide) (by decide) rfl (Nat.le_of_ble_eq_true rfl) (Nat.le_of_ble_eq_true rfl) (Nat.le_of_ble_eq_true rfl) (Nat.le_of_ble_eq_true rfl) (jX10_goOn (s := sErr 1 B n (!sSemi B n s.2.2) s) hP2 ?_)
      intro M3 hF3 hP3
      exact zj_return dX10_semicolon_33 rfl (h M3 ((zG25 hF1).tr hF3) hP3)
    · refine zj_aload0 (n := 16) rfl dX10_semicolon_15 ?_
      refine zj_getiN (e := B (tS B n e)) (n := 19) rfl dX10_semicolon_16 zf_X10_253 rfl (by decide) (by decide) (hK.2.2.2.2 c12) ?_
      have hsn : tS B n e < n := by
        by_cases w : tS B n e < n
        · exact w
        · rw [show tK B n e = 0 from sK_0.mpr w] at c12; cases c12
      have hb9 := (hT.2.2 _ hsn).1
      refine zj_bipushN (v := 59) (n := 21) rfl dX10_semicolon_19 (by decide) ?_
      refine zj_icmpN_eq (n := 24) (tgt := 29) rfl dX10_semicolon_21 (by decide) (by omega) (by omega) (fun c21 => ?_) (fun c21 => ?_)
      · have hP2 : zPm M n B (sErr 1 B n (!sSemi B n s.2.2) s) := by
          by_cases q : s.1 = 0
          · have e9 := he q
            subst e9
            rw [sErr_eq (by unfold sSemi; rw [c12, c21]; rfl)]
            exact hP
          · rw [sErr_no q]; exact hP
        refine zj_aload0 (n := 30) rfl dX10_semicolon_29 ?_
        refine zj_callV0 (n := 33) (a' := 0) (b' := 0) rfl dX10_semicolon_30 zm_X10_320 (by decide) (by decide) rfl (Nat.le_of_ble_eq_true rfl) (Nat.le_of_ble_eq_true rfl) (Nat.le_of_ble_eq_true rfl) (Nat.le_of_ble_eq_true rfl) (jX10_goOn (s := sErr 1 B n (!sSemi B n s.2.2) s) hP2 ?_)
        intro M3 hF3 hP3
        exact zj_return dX10_semicolon_33 rfl (h M3 hF3 hP3)
      · have hbad : s.1 = 0 → sSemi B n s.2.2 = false := fun q => by
          have e9 := he q
          subst e9
          unfold sSemi
          rw [beq_false_of_ne c21, Bool.and_false]
        refine zj_aload0 (n := 25) rfl dX10_semicolon_24 ?_
        refine zj_iconstN_1 (n := 26) rfl dX10_semicolon_25 ?_
        refine zj_callV1 (n := 29) (a' := 0) (b' := 0) rfl dX10_semicolon_26 zm_X10_317 (by decide) (by decide) rfl (Nat.le_of_ble_eq_true rfl) (Nat.le_of_ble_eq_true rfl) (Nat.le_of_ble_eq_true rfl) (Nat.le_of_ble_eq_true rfl) (jX10_errs hP (by decide) ?_)
        intro M1 hF1 hP1
        have hP2 : zPm M1 n B (sErr 1 B n (!sSemi B n s.2.2) s) := by
          by_cases q : s.1 = 0
          · rw [hbad q]
            exact hP1
          · rw [sErr_no q]; rw [sRef_no q] at hP1; exact hP1
        skip
        refine zj_aload0 (n := 30) rfl dX10_semicolon_29 ?_
        refine zj_callV0 (n := 33) (a' := 0) (b' := 0) rfl dX10_semicolon_30 zm_X10_320 (by decide) (by decide) rfl (Nat.le_of_ble_eq_true rfl) (Nat.le_of_ble_eq_true rfl) (Nat.le_of_ble_eq_true rfl) (Nat.le_of_ble_eq_true rfl) (jX10_goOn (s := sErr 1 B n (!sSemi B n s.2.2) s) hP2 ?_)
        intro M3 hF3 hP3
        exact zj_return dX10_semicolon_33 rfl (h M3 ((zG25 hF1).tr hF3) hP3)
theorem jX10_numberHere {n : Nat} {B : Nat → Nat} {s : zS} {lo hi : Nat} {Q : Option Value → zM → Prop} {X : String → zM → Prop} {M : zM} (hP : zPm M n B s) (hlo : lo < 9999999) (hhi : hi < 9999999) (h : ∀ M' (x : Nat), x < 9999999 → zGf zG2 M M' → zPm M' n B (sNumE B n lo hi s) → ((sNumE B n lo hi s).1 = 0 → x = tN B n s.2.2) → Q (some (.int (nI x))) M') : zJ yX10_numberHere cX10_numberHere 3 (some .int) rX10_numberHere Q X rX10_numberHere.cells rX10_numberHere.slots 0 (zEnt 3 [.ref 118, .int (nI lo), .int (nI hi)]) [] M := by
  have hn := hP.n
  obtain ⟨hT, hc, hc5, hpp, hpm, e, hen, hK, he⟩ := id hP
  have hts := tS_le (B := B) hen
  have hte := tE_le (B := B) hen
  have hk3 : tK B n e ≤ 3 := sK_le
  show zJ yX10_numberHere cX10_numberHere 3 (some .int) rX10_numberHere Q X 0 0 0 [some (.ref 118), some (.int (nI lo)), some (.int (nI hi))] [] M
  refine zj_aload0 (n := 1) rfl dX10_numberHere_0 ?_
  refine zj_callV0 (n := 4) (a' := 0) (b' := 0) rfl dX10_numberHere_1 zm_X10_226 (by decide) (by decide) rfl (Nat.le_of_ble_eq_true rfl) (Nat.le_of_ble_eq_true rfl) (Nat.le_of_ble_eq_true rfl) (Nat.le_of_ble_eq_true rfl) (jX10_good hP ?_)
  refine zj_ifB_eq (n := 7) (tgt := 20) rfl dX10_numberHere_4 (by decide) (fun c4 => ?_) (fun c4 => ?_)
  · refine zj_aload0 (n := 21) rfl dX10_numberHere_20 ?_
    refine zj_callV0 (n := 24) (a' := 0) (b' := 0) rfl dX10_numberHere_21 zm_X10_226 (by decide) (by decide) rfl (Nat.le_of_ble_eq_true rfl) (Nat.le_of_ble_eq_true rfl) (Nat.le_of_ble_eq_true rfl) (Nat.le_of_ble_eq_true rfl) (jX10_good hP ?_)
    refine zj_ifB_eq (n := 27) (tgt := 47) rfl dX10_numberHere_24 (by decide) (fun c24 => ?_) (fun c24 => by rw [c4] at c24; cases c24)
    refine zj_aload0 (n := 48) rfl dX10_numberHere_47 ?_
    refine zj_callV0 (n := 51) (a' := 0) (b' := 0) rfl dX10_numberHere_48 zm_X10_226 (by decide) (by decide) rfl (Nat.le_of_ble_eq_true rfl) (Nat.le_of_ble_eq_true rfl) (Nat.le_of_ble_eq_true rfl) (Nat.le_of_ble_eq_true rfl) (jX10_good hP ?_)
    refine zj_ifB_eq (n := 54) (tgt := 61) rfl dX10_numberHere_51 (by decide) (fun c51 => ?_) (fun c51 => by rw [c4] at c51; cases c51)
    refine zj_iload1 (n := 62) rfl dX10_numberHere_61 ?_
    refine zj_ireturn dX10_numberHere_62 rfl rfl ?_
    have q := of_decide_eq_false c4
    exact h M lo (by omega) zGf.rf (by unfold sNumE; rw [sErr_no q, sErr_no q]; split <;> exact hP) (fun w => absurd (by unfold sNumE at w; rw [sErr_no q, sErr_no q] at w; split at w <;> exact w) q)
  · refine zj_aload0 (n := 8) rfl dX10_numberHere_7 ?_
    refine zj_getiN (e := tK B n e) (n := 11) rfl dX10_numberHere_8 zf_X10_242 rfl (by decide) (by decide) hK.1 ?_
    refine zj_iconstN_2 (n := 12) rfl dX10_numberHere_11 ?_
    refine zj_icmpN_eq (n := 15) (tgt := 20) rfl dX10_numberHere_12 (by decide) (by omega) (by omega) (fun c12 => ?_) (fun c12 => ?_)
    · refine zj_aload0 (n := 21) rfl dX10_numberHere_20 ?_
      refine zj_callV0 (n := 24) (a' := 0) (b' := 0) rfl dX10_numberHere_21 zm_X10_226 (by decide) (by decide) rfl (Nat.le_of_ble_eq_true rfl) (Nat.le_of_ble_eq_true rfl) (Nat.le_of_ble_eq_true rfl) (Nat.le_of_ble_eq_true rfl) (jX10_good hP ?_)
      refine zj_ifB_eq (n := 27) (tgt := 47) rfl dX10_numberHere_24 (by decide) (fun c24 => by rw [c4] at c24; cases c24) (fun c24 => ?_)
      refine zj_aload0 (n := 28) rfl dX10_numberHere_27 ?_
      refine zj_getiN (e := min 9999999 (tN B n e)) (n := 31) rfl dX10_numberHere_28 zf_X10_253 rfl (by decide) (by decide) (hK.2.2.2.1 c12) ?_
      refine zj_i2lN (n := 32) rfl dX10_numberHere_31 (by omega) ?_
      refine zj_iload1 (n := 33) rfl dX10_numberHere_32 ?_
      refine zj_i2lN (n := 34) rfl dX10_numberHere_33 (by omega) ?_
      refine zj_iload2 (n := 35) rfl dX10_numberHere_34 ?_
      refine zj_i2lN (n := 36) rfl dX10_numberHere_35 (by omega) ?_
      refine zj_callS3 (n := 39) (a' := 0) (b' := 0) rfl dX10_numberHere_36 zm_X10_62 (by decide) (Nat.le_of_ble_eq_true rfl) (Nat.le_of_ble_eq_true rfl) (Nat.le_of_ble_eq_true rfl) (Nat.le_of_ble_eq_true rfl) (jX10_inN (c := min 9999999 (tN B n e)) (by omega) (by omega) (by omega) ?_)
      refine zj_ifB_ne (n := 42) (tgt := 47) rfl dX10_numberHere_39 (by decide) (fun c39 => ?_) (fun c39 => ?_)
      · refine zj_aload0 (n := 48) rfl dX10_numberHere_47 ?_
        refine zj_callV0 (n := 51) (a' := 0) (b' := 0) rfl dX10_numberHere_48 zm_X10_226 (by decide) (by decide) rfl (Nat.le_of_ble_eq_true rfl) (Nat.le_of_ble_eq_true rfl) (Nat.le_of_ble_eq_true rfl) (Nat.le_of_ble_eq_true rfl) (jX10_good hP ?_)
        refine zj_ifB_eq (n := 54) (tgt := 61) rfl dX10_numberHere_51 (by decide) (fun c51 => by rw [c4] at c51; cases c51) (fun c51 => ?_)
        refine zj_aload0 (n := 55) rfl dX10_numberHere_54 ?_
        refine zj_getiN (e := min 9999999 (tN B n e)) (n := 58) rfl dX10_numberHere_55 zf_X10_253 rfl (by decide) (by decide) (hK.2.2.2.1 c12) ?_
        refine zj_goto (tgt := 62) dX10_numberHere_58 (by decide) ?_
        refine zj_ireturn dX10_numberHere_62 rfl rfl ?_
        have q := of_decide_eq_true c4
        have e9 := he q
        subst e9
        rw [Bool.and_eq_true, decide_eq_true_eq, decide_eq_true_eq] at c39
        have es : sNumE B n lo hi s = s := by
          unfold sNumE
          rw [if_pos c12, sErr_eq (by rw [decide_eq_true (show lo ≤ tN B n s.2.2 by omega), decide_eq_true (show tN B n s.2.2 ≤ hi by omega)]; rfl)]
        rw [es] at h
        exact h M _ (by omega) zGf.rf hP (fun _ => by omega)
      · refine zj_aload0 (n := 43) rfl dX10_numberHere_42 ?_
        refine zj_iconstN_2 (n := 44) rfl dX10_numberHere_43 ?_
        refine zj_callV1 (n := 47) (a' := 0) (b' := 0) rfl dX10_numberHere_44 zm_X10_317 (by decide) (by decide) rfl (Nat.le_of_ble_eq_true rfl) (Nat.le_of_ble_eq_true rfl) (Nat.le_of_ble_eq_true rfl) (Nat.le_of_ble_eq_true rfl) (jX10_errs hP (by decide) ?_)
        intro M4 hF4 hP4
        refine zj_aload0 (n := 48) rfl dX10_numberHere_47 ?_
        refine zj_callV0 (n := 51) (a' := 0) (b' := 0) rfl dX10_numberHere_48 zm_X10_226 (by decide) (by decide) rfl (Nat.le_of_ble_eq_true rfl) (Nat.le_of_ble_eq_true rfl) (Nat.le_of_ble_eq_true rfl) (Nat.le_of_ble_eq_true rfl) (jX10_good hP4 ?_)
        refine zj_ifB_eq (n := 54) (tgt := 61) rfl dX10_numberHere_51 (by decide) (fun c51 => ?_) (fun c51 => by have q := of_decide_eq_true c4; have w := of_decide_eq_true c51; rw [sRef_e q] at w; cases w)
        refine zj_iload1 (n := 62) rfl dX10_numberHere_61 ?_
        refine zj_ireturn dX10_numberHere_62 rfl rfl ?_
        have q := of_decide_eq_true c4
        have e9 := he q
        subst e9
        have es : sNumE B n lo hi s = sRef 2 (tS B n s.2.2) s := by
          unfold sNumE
          rw [if_pos c12, show sErr 2 B n (!(decide (lo ≤ tN B n s.2.2) && decide (tN B n s.2.2 ≤ hi))) s = sRef 2 (tS B n s.2.2) s from if_pos (by rw [show (decide (lo ≤ tN B n s.2.2) && decide (tN B n s.2.2 ≤ hi)) = (decide (lo ≤ min 9999999 (tN B n s.2.2)) && decide (min 9999999 (tN B n s.2.2) ≤ hi)) from by rw [← Bool.decide_and, ← Bool.decide_and]; exact decide_eq_decide.mpr (by omega), c39]; rfl)]
        rw [es] at h
        exact h M4 lo (by omega) hF4 hP4 (fun w => absurd w (by rw [sRef_e q]; simp))
    · refine zj_aload0 (n := 16) rfl dX10_numberHere_15 ?_
      refine zj_iconstN_1 (n := 17) rfl dX10_numberHere_16 ?_
      refine zj_callV1 (n := 20) (a' := 0) (b' := 0) rfl dX10_numberHere_17 zm_X10_317 (by decide) (by decide) rfl (Nat.le_of_ble_eq_true rfl) (Nat.le_of_ble_eq_true rfl) (Nat.le_of_ble_eq_true rfl) (Nat.le_of_ble_eq_true rfl) (jX10_errs hP (by decide) ?_)
      intro M1 hF1 hP1
      refine zj_aload0 (n := 21) rfl dX10_numberHere_20 ?_
      refine zj_callV0 (n := 24) (a' := 0) (b' := 0) rfl dX10_numberHere_21 zm_X10_226 (by decide) (by decide) rfl (Nat.le_of_ble_eq_true rfl) (Nat.le_of_ble_eq_true rfl) (Nat.le_of_ble_eq_true rfl) (Nat.le_of_ble_eq_true rfl) (jX10_good hP1 ?_)
      refine zj_ifB_eq (n := 27) (tgt := 47) rfl dX10_numberHere_24 (by decide) (fun c24 => ?_) (fun c24 => by have q := of_decide_eq_true c4; have w := of_decide_eq_true c24; rw [sRef_e q] at w; cases w)
      refine zj_aload0 (n := 48) rfl dX10_numberHere_47 ?_
      refine zj_callV0 (n := 51) (a' := 0) (b' := 0) rfl dX10_numberHere_48 zm_X10_226 (by decide) (by decide) rfl (Nat.le_of_ble_eq_true rfl) (Nat.le_of_ble_eq_true rfl) (Nat.le_of_ble_eq_true rfl) (Nat.le_of_ble_eq_true rfl) (jX10_good hP1 ?_)
      refine zj_ifB_eq (n := 54) (tgt := 61) rfl dX10_numberHere_51 (by decide) (fun c51 => ?_) (fun c51 => by have q := of_decide_eq_true c4; have w := of_decide_eq_true c51; rw [sRef_e q] at w; cases w)
      refine zj_iload1 (n := 62) rfl dX10_numberHere_61 ?_
      refine zj_ireturn dX10_numberHere_62 rfl rfl ?_
      have q := of_decide_eq_true c4
      have e9 := he q
      subst e9
      have es : sNumE B n lo hi s = sRef 1 (tS B n s.2.2) s := by unfold sNumE; rw [if_neg c12]; rfl
      rw [es] at h
      exact h M1 lo (by omega) hF1 hP1 (fun w => absurd w (by rw [sRef_e q]; simp))
theorem jX10_numberAfter {n : Nat} {B : Nat → Nat} {s : zS} {i lo hi : Nat} {Q : Option Value → zM → Prop} {X : String → zM → Prop} {M : zM} (hP : zPm M n B s) (hi9 : i < 23) (hlo : lo < 9999999) (hhi : hi < 9999999) (h : ∀ M' (x : Nat), x < 9999999 → zGf zG5 M M' → zPm M' n B (sNum B n lo hi (sTake B n i s)) → ((sNum B n lo hi (sTake B n i s)).1 = 0 → x = tN B n (sTake B n i s).2.2) → Q (some (.int (nI x))) M') : zJ yX10_numberAfter cX10_numberAfter 5 (some .int) rX10_numberAfter Q X rX10_numberAfter.cells rX10_numberAfter.slots 0 (zEnt 5 [.ref 118, .ref (300 + i), .int (nI lo), .int (nI hi)]) [] M := by
  show zJ yX10_numberAfter cX10_numberAfter 5 (some .int) rX10_numberAfter Q X 0 0 0 [some (.ref 118), some (.ref (300 + i)), some (.int (nI lo)), some (.int (nI hi)), none] [] M
  refine zj_aload0 (n := 1) rfl dX10_numberAfter_0 ?_
  refine zj_aload1 (n := 2) rfl dX10_numberAfter_1 ?_
  refine zj_callV1 (n := 5) (a' := 0) (b' := 0) rfl dX10_numberAfter_2 zm_X10_323 (by decide) (by decide) rfl (Nat.le_of_ble_eq_true rfl) (Nat.le_of_ble_eq_true rfl) (Nat.le_of_ble_eq_true rfl) (Nat.le_of_ble_eq_true rfl) (jX10_word hP hi9 ?_)
  intro M1 hF1 hP1
  refine zj_aload0 (n := 6) rfl dX10_numberAfter_5 ?_
  refine zj_iload2 (n := 7) rfl dX10_numberAfter_6 ?_
  refine zj_iload3 (n := 8) rfl dX10_numberAfter_7 ?_
  refine zj_callV2 (n := 11) (a' := 0) (b' := 0) rfl dX10_numberAfter_8 zm_X10_327 (by decide) (by decide) rfl (Nat.le_of_ble_eq_true rfl) (Nat.le_of_ble_eq_true rfl) (Nat.le_of_ble_eq_true rfl) (Nat.le_of_ble_eq_true rfl) (jX10_numberHere hP1 hlo hhi ?_)
  intro M2 x hx hF2 hP2 hx2
  refine zj_istore4 (n := 13) rfl dX10_numberAfter_11 rfl (Nat.le_of_ble_eq_true rfl) ?_
  refine zj_aload0 (n := 14) rfl dX10_numberAfter_13 ?_
  refine zj_callV0 (n := 17) (a' := 0) (b' := 0) rfl dX10_numberAfter_14 zm_X10_320 (by decide) (by decide) rfl (Nat.le_of_ble_eq_true rfl) (Nat.le_of_ble_eq_true rfl) (Nat.le_of_ble_eq_true rfl) (Nat.le_of_ble_eq_true rfl) (jX10_goOn hP2 ?_)
  intro M3 hF3 hP3
  refine zj_iload4 (n := 19) rfl dX10_numberAfter_17 ?_
  exact zj_ireturn dX10_numberAfter_19 rfl rfl (h M3 x hx (hF1.tr ((zG25 hF2).tr hF3)) hP3 (fun q => hx2 (sNext_ok.mp q)))
theorem jX10_checkName {n : Nat} {B : Nat → Nat} {s : zS}  {Q : Option Value → zM → Prop} {X : String → zM → Prop} {M : zM} (hP : zPm M n B s) (h : ∀ M', zGf zG2 M M' → zPm M' n B (sErr 1 B n (sBadN B n s.2.2) s) → Q none M') : zJ yX10_checkName cX10_checkName 1 none rX10_checkName Q X rX10_checkName.cells rX10_checkName.slots 0 (zEnt 1 [.ref 118]) [] M := by
  have hn := hP.n
  obtain ⟨hT, hc, hc5, hpp, hpm, e, hen, hK, he⟩ := id hP
  have hts := tS_le (B := B) hen
  have hte := tE_le (B := B) hen
  have hk3 : tK B n e ≤ 3 := sK_le
  show zJ yX10_checkName cX10_checkName 1 none rX10_checkName Q X 0 0 0 [some (.ref 118)] [] M
  refine zj_aload0 (n := 1) rfl dX10_checkName_0 ?_
  refine zj_callV0 (n := 4) (a' := 0) (b' := 0) rfl dX10_checkName_1 zm_X10_226 (by decide) (by decide) rfl (Nat.le_of_ble_eq_true rfl) (Nat.le_of_ble_eq_true rfl) (Nat.le_of_ble_eq_true rfl) (Nat.le_of_ble_eq_true rfl) (jX10_good hP ?_)
  refine zj_ifB_eq (n := 7) (tgt := 41) rfl dX10_checkName_4 (by decide) (fun c4 => ?_) (fun c4 => ?_)
  · refine zj_return dX10_checkName_41 rfl ?_
    rw [sErr_no (of_decide_eq_false c4)] at h
    exact h M zGf.rf hP
  · refine zj_aload0 (n := 8) rfl dX10_checkName_7 ?_
    refine zj_getiN (e := tK B n e) (n := 11) rfl dX10_checkName_8 zf_X10_242 rfl (by decide) (by decide) hK.1 ?_
    refine zj_iconstN_1 (n := 12) rfl dX10_checkName_11 ?_
    refine zj_icmpN_ne (n := 15) (tgt := 36) rfl dX10_checkName_12 (by decide) (by omega) (by omega) (fun c12 => ?_) (fun c12 => ?_)
    · have hbad : sBadN B n s.2.2 = true := by
        have e9 := he (of_decide_eq_true c4)
        subst e9
        unfold sBadN
        rw [beq_false_of_ne c12]; rfl
      refine zj_aload0 (n := 37) rfl dX10_checkName_36 ?_
      refine zj_iconstN_1 (n := 38) rfl dX10_checkName_37 ?_
      refine zj_callV1 (n := 41) (a' := 0) (b' := 0) rfl dX10_checkName_38 zm_X10_317 (by decide) (by decide) rfl (Nat.le_of_ble_eq_true rfl) (Nat.le_of_ble_eq_true rfl) (Nat.le_of_ble_eq_true rfl) (Nat.le_of_ble_eq_true rfl) (jX10_errs hP (by decide) ?_)
      intro M1 hF1 hP1
      refine zj_return dX10_checkName_41 rfl ?_
      rw [show sErr 1 B n (sBadN B n s.2.2) s = sRef 1 (tS B n s.2.2) s from if_pos hbad] at h
      exact h M1 hF1 hP1
    · refine zj_aload0 (n := 16) rfl dX10_checkName_15 ?_
      refine zj_getiN (e := tE B n e) (n := 19) rfl dX10_checkName_16 zf_X10_236 rfl (by decide) (by decide) hK.2.2.1 ?_
      refine zj_aload0 (n := 20) rfl dX10_checkName_19 ?_
      refine zj_getiN (e := tS B n e) (n := 23) rfl dX10_checkName_20 zf_X10_230 rfl (by decide) (by decide) hK.2.1 ?_
      refine zj_isubN (n := 24) rfl dX10_checkName_23 (by omega) ?_
      refine zj_bipushN (v := 6) (n := 26) rfl dX10_checkName_24 (by decide) ?_
      refine zj_icmpN_gt (n := 29) (tgt := 36) rfl dX10_checkName_26 (by decide) (by omega) (by omega) (fun c26 => ?_) (fun c26 => ?_)
      · have hbad : sBadN B n s.2.2 = true := by
          have e9 := he (of_decide_eq_true c4)
          subst e9
          unfold sBadN
          rw [decide_eq_true (show 6 < tE B n s.2.2 - tS B n s.2.2 by omega), Bool.or_true]; rfl
        refine zj_aload0 (n := 37) rfl dX10_checkName_36 ?_
        refine zj_iconstN_1 (n := 38) rfl dX10_checkName_37 ?_
        refine zj_callV1 (n := 41) (a' := 0) (b' := 0) rfl dX10_checkName_38 zm_X10_317 (by decide) (by decide) rfl (Nat.le_of_ble_eq_true rfl) (Nat.le_of_ble_eq_true rfl) (Nat.le_of_ble_eq_true rfl) (Nat.le_of_ble_eq_true rfl) (jX10_errs hP (by decide) ?_)
        intro M1 hF1 hP1
        refine zj_return dX10_checkName_41 rfl ?_
        rw [show sErr 1 B n (sBadN B n s.2.2) s = sRef 1 (tS B n s.2.2) s from if_pos hbad] at h
        exact h M1 hF1 hP1
      · refine zj_aload0 (n := 30) rfl dX10_checkName_29 ?_
        refine zj_callV0 (n := 33) (a' := 0) (b' := 0) rfl dX10_checkName_30 zm_X10_337 (by decide) (by decide) rfl (Nat.le_of_ble_eq_true rfl) (Nat.le_of_ble_eq_true rfl) (Nat.le_of_ble_eq_true rfl) (Nat.le_of_ble_eq_true rfl) (jX10_isKeyword hP (of_decide_eq_true c4) (by rw [← he (of_decide_eq_true c4)]; exact c12) ?_)
        refine zj_ifB_eq (n := 36) (tgt := 41) rfl dX10_checkName_33 (by decide) (fun c33 => ?_) (fun c33 => ?_)
        · refine zj_return dX10_checkName_41 rfl ?_
          rw [sErr_eq (by have e9 := he (of_decide_eq_true c4); subst e9; unfold sBadN; rw [c12, c33, decide_eq_false (by omega)]; rfl)] at h
          exact h M zGf.rf hP
        · have hbad : sBadN B n s.2.2 = true := by
            have e9 := he (of_decide_eq_true c4)
            subst e9
            unfold sBadN
            rw [c33, Bool.or_true]
          refine zj_aload0 (n := 37) rfl dX10_checkName_36 ?_
          refine zj_iconstN_1 (n := 38) rfl dX10_checkName_37 ?_
          refine zj_callV1 (n := 41) (a' := 0) (b' := 0) rfl dX10_checkName_38 zm_X10_317 (by decide) (by decide) rfl (Nat.le_of_ble_eq_true rfl) (Nat.le_of_ble_eq_true rfl) (Nat.le_of_ble_eq_true rfl) (Nat.le_of_ble_eq_true rfl) (jX10_errs hP (by decide) ?_)
          intro M1 hF1 hP1
          refine zj_return dX10_checkName_41 rfl ?_
          rw [show sErr 1 B n (sBadN B n s.2.2) s = sRef 1 (tS B n s.2.2) s from if_pos hbad] at h
          exact h M1 hF1 hP1
theorem jX10_begins {n : Nat} {B : Nat → Nat} {s : zS} {can : Bool} {Q : Option Value → zM → Prop} {X : String → zM → Prop} {M : zM} (hP : zPm M n B s) (h : ∀ M', zGf zG5 M M' → zPm M' n B (sNext B n (sErr 4 B n (!can) s)) → Q (some (.int (zb (decide ((sNext B n (sErr 4 B n (!can) s)).1 = 0))))) M') : zJ yX10_begins cX10_begins 2 (some .boolean) rX10_begins Q X rX10_begins.cells rX10_begins.slots 0 (zEnt 2 [.ref 118, .int (zb can)]) [] M := by
  show zJ yX10_begins cX10_begins 2 (some .boolean) rX10_begins Q X 0 0 0 [some (.ref 118), some (.int (zb can))] [] M
  refine zj_iload1 (n := 1) rfl dX10_begins_0 ?_
  refine zj_ifB_ne (n := 4) (tgt := 9) rfl dX10_begins_1 (by decide) (fun c1 => ?_) (fun c1 => ?_)
  · have hP2 : zPm M n B (sErr 4 B n (!can) s) := by rw [c1]; exact hP
    refine zj_aload0 (n := 10) rfl dX10_begins_9 ?_
    refine zj_callV0 (n := 13) (a' := 0) (b' := 0) rfl dX10_begins_10 zm_X10_320 (by decide) (by decide) rfl (Nat.le_of_ble_eq_true rfl) (Nat.le_of_ble_eq_true rfl) (Nat.le_of_ble_eq_true rfl) (Nat.le_of_ble_eq_true rfl) (jX10_goOn (s := sErr 4 B n (!can) s) hP2 ?_)
    intro M3 hF3 hP3
    refine zj_aload0 (n := 14) rfl dX10_begins_13 ?_
    refine zj_callV0 (n := 17) (a' := 0) (b' := 0) rfl dX10_begins_14 zm_X10_226 (by decide) (by decide) rfl (Nat.le_of_ble_eq_true rfl) (Nat.le_of_ble_eq_true rfl) (Nat.le_of_ble_eq_true rfl) (Nat.le_of_ble_eq_true rfl) (jX10_good hP3 ?_)
    exact zj_ireturn dX10_begins_17 rfl (zb_nar _) (h M3 hF3 hP3)
  · refine zj_aload0 (n := 5) rfl dX10_begins_4 ?_
    refine zj_iconstN_4 (n := 6) rfl dX10_begins_5 ?_
    refine zj_callV1 (n := 9) (a' := 0) (b' := 0) rfl dX10_begins_6 zm_X10_317 (by decide) (by decide) rfl (Nat.le_of_ble_eq_true rfl) (Nat.le_of_ble_eq_true rfl) (Nat.le_of_ble_eq_true rfl) (Nat.le_of_ble_eq_true rfl) (jX10_errs hP (by decide) ?_)
    intro M1 hF1 hP1
    have hP2 : zPm M1 n B (sErr 4 B n (!can) s) := by rw [c1]; exact hP1
    skip
    refine zj_aload0 (n := 10) rfl dX10_begins_9 ?_
    refine zj_callV0 (n := 13) (a' := 0) (b' := 0) rfl dX10_begins_10 zm_X10_320 (by decide) (by decide) rfl (Nat.le_of_ble_eq_true rfl) (Nat.le_of_ble_eq_true rfl) (Nat.le_of_ble_eq_true rfl) (Nat.le_of_ble_eq_true rfl) (jX10_goOn (s := sErr 4 B n (!can) s) hP2 ?_)
    intro M3 hF3 hP3
    refine zj_aload0 (n := 14) rfl dX10_begins_13 ?_
    refine zj_callV0 (n := 17) (a' := 0) (b' := 0) rfl dX10_begins_14 zm_X10_226 (by decide) (by decide) rfl (Nat.le_of_ble_eq_true rfl) (Nat.le_of_ble_eq_true rfl) (Nat.le_of_ble_eq_true rfl) (Nat.le_of_ble_eq_true rfl) (jX10_good hP3 ?_)
    exact zj_ireturn dX10_begins_17 rfl (zb_nar _) (h M3 ((zG25 hF1).tr hF3) hP3)
