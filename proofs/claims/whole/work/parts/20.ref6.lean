/-! THE REFERENCE, the bids laid out -/
set_option maxRecDepth 100000 in
set_option maxHeartbeats 4000000 in
theorem jX10_layBids {w : Nat} {v : zV} {d : Nat} {Q : Option Value → zM → Prop} {X : String → zM → Prop} {M : zM} (hA : zRA M w v) (hW : zWF v) (hd : M.1 118 4 = nI d) (hd2 : d < 2 ^ 16) (h : ∀ M', zSr M M' → zBv M' (voffer v d) (vord v d) → (∀ k, k < (vord v d).1 → M'.1 124 k = nI (vneed v d ((vord v d).2 k))) → Q none M') : zJ yX10_layBids cX10_layBids 4 none rX10_layBids Q X rX10_layBids.cells rX10_layBids.slots 0 (zEnt 4 [.ref 118]) [] M := by
  have h8 := hW.gN
  show zJ yX10_layBids cX10_layBids 4 none rX10_layBids Q X 0 0 0 [some (.ref 118), none, none, none] [] M
  refine zj_aload0 (n := 1) rfl dX10_layBids_0 ?_
  refine zj_iconst_0 (n := 2) rfl dX10_layBids_1 ?_
  refine zj_puti (n := 5) rfl dX10_layBids_2 zp_X10_161 rfl (by decide) (by decide) ?_
  refine zj_iconst_0 (n := 6) rfl dX10_layBids_5 ?_
  refine zj_istore1 (n := 7) rfl dX10_layBids_6 rfl (Nat.le_of_ble_eq_true rfl) ?_
  have hM0 : zSr M (zU M.1 118 11 0, M.2) := zSr.put rfl
  refine zFor_rule (P := fun g (_ : Unit) => ∀ M1, zSr M M1 → zBv M1 (voffer v d) (vordk v d g) → zJ yX10_layBids cX10_layBids 4 none rX10_layBids Q X 0 0 7 [some (.ref 118), some (.int (nI g)), none, none] [] M1) (n := v 8) (f := fun _ s => s) (s0 := ()) ?_ ?_ _ hM0 ⟨by show zU M.1 118 11 0 118 11 = nI 0; rw [zU_at]; exact if_pos rfl, fun j hj => absurd hj (Nat.not_lt_zero j)⟩
  · intro g _ hg hk M1 hM hB
    obtain ⟨b1, b2, b3, b4, b5, b6⟩ := vordk_ok v d g
    have ek : vordk v d (g + 1) = if vbid v d g then vins (voffer v d) (vordk v d g) g else vordk v d g := rfl
    refine zj_iload1 (n := 8) rfl dX10_layBids_7 ?_
    refine zj_aload0 (n := 9) rfl dX10_layBids_8 ?_
    refine zj_getr (n := 12) (q := w) rfl dX10_layBids_9 zf_X10_24 rfl (by decide) (by decide) (hM.ra hA).now ?_
    refine zj_bipush (v := 8) (n := 14) rfl dX10_layBids_12 (by decide) ?_
    refine zj_iaload (n := 15) rfl dX10_layBids_14 hA.2.1.lt hA.2.1.ty ((hM.ra hA).in (x := 8) (j := 8) rfl (by decide)) ?_
    refine zj_icmp_ge (n := 18) (tgt := 120) rfl dX10_layBids_15 (by decide) (fun c15 => absurd c15 (by rw [(hM.ra hA).at (x := 8) (j := 8) rfl (by decide)]; exact nI_ge hg (by omega))) (fun c15 => ?_)
    refine zj_aload0 (n := 19) rfl dX10_layBids_18 ?_
    refine zj_iload1 (n := 20) rfl dX10_layBids_19 ?_
    refine zj_callV1 (n := 23) (a' := 0) (b' := 0) rfl dX10_layBids_20 zm_X10_164 (by decide) (by decide) rfl (Nat.le_of_ble_eq_true rfl) (Nat.le_of_ble_eq_true rfl) (Nat.le_of_ble_eq_true rfl) (Nat.le_of_ble_eq_true rfl) (jX10_isBidding (hM.ra hA) hW (hM.td hd) hd2 hg ?_)
    intro L hL
    refine zj_if_ne (n := 26) (tgt := 29) rfl dX10_layBids_23 (by decide) (fun c23 => ?_) (fun c23 => ?_)
    · refine zj_aload0 (n := 30) rfl dX10_layBids_29 ?_
      refine zj_iload1 (n := 31) rfl dX10_layBids_30 ?_
      refine zj_callV1 (n := 34) (a' := 0) (b' := 0) rfl dX10_layBids_31 zm_X10_158 (by decide) (by decide) rfl (Nat.le_of_ble_eq_true rfl) (Nat.le_of_ble_eq_true rfl) (Nat.le_of_ble_eq_true rfl) (Nat.le_of_ble_eq_true rfl) (jX10_offerOf (hM.ra hA) hW (hM.td hd) hd2 hg ?_)
      intro L2 hL2
      refine zj_istore2 (n := 35) rfl dX10_layBids_34 rfl (Nat.le_of_ble_eq_true rfl) ?_
      refine zj_aload0 (n := 36) rfl dX10_layBids_35 ?_
      refine zj_geti (n := 39) rfl dX10_layBids_36 zf_X10_161 rfl (by decide) (by decide) ?_
      refine zj_istore3 (n := 40) rfl dX10_layBids_39 rfl (Nat.le_of_ble_eq_true rfl) ?_
      simp only [zb_eq0, Bool.not_eq_false] at c23
      have hpos := vpos_le (off := voffer v d) (s := vordk v d g) (o := voffer v d g)
      have hof := voffer_le v d g
      refine zj_sub (l' := [some (.ref 118), some (.int (nI g)), some (.int (nI (voffer v d g))), some (.int (nI ((vordk v d g).1 - 0)))]) (by simp only [zLe, eq_self, Value.int.injEq, and_true, true_and]; first | exact hB.1 | exact hB.1.symm) ?_
      refine zFind_rule (P := fun t => ∀ M3, zSr M M3 → zBh M3 (voffer v d) (vordk v d g) ((vordk v d g).1 - t) → zJ yX10_layBids cX10_layBids 4 none rX10_layBids Q X 0 0 40 [some (.ref 118), some (.int (nI g)), some (.int (nI (voffer v d g))), some (.int (nI ((vordk v d g).1 - t)))] [] M3) (n := (vordk v d g).1 + 1) (p := fun t => decide ((vordk v d g).1 - t = 0) || !decide (voffer v d ((vordk v d g).2 ((vordk v d g).1 - t - 1)) < voffer v d g)) ?_ ?_ _ ((hM.tr (zSr.ofL hL)).tr (zSr.ofL hL2)) hB.start
      · intro t ht hf hk3 M3 hM3 hH
        have hk10 : (vordk v d g).1 ≤ 10 := by omega
        refine zj_iload3 (n := 41) rfl dX10_layBids_40 ?_
        refine zj_if_le (n := 44) (tgt := 90) rfl dX10_layBids_41 (by decide) (fun c41 => ?_) (fun c41 => ?_)
        · have hz : (vordk v d g).1 - t = 0 := by
            rcases Nat.eq_zero_or_pos ((vordk v d g).1 - t) with q | q
            · exact q
            · exact absurd c41 (nI_nle q (by omega))
          have hpe : vpos (voffer v d) (vordk v d g) (voffer v d g) = (vordk v d g).1 - t := by
            rcases Nat.lt_or_ge ((vordk v d g).1 - t) (vordk v d g).1 with q | q
            · refine zFst_eq q ?_ (fun i hi => ?_)
              · have h9 := hf (t - 1) (by omega)
                rw [show (vordk v d g).1 - (t - 1) - 1 = (vordk v d g).1 - t from by omega] at h9
                simp only [Bool.or_eq_false_iff, Bool.not_eq_false'] at h9
                exact h9.2
              · omega
            · have et : (vordk v d g).1 - t = (vordk v d g).1 := by omega
              rw [et]
              refine zFst_none.mpr (fun i hi => ?_)
              omega
          rw [← hpe] at hH ⊢
          refine zj_aload0 (n := 91) rfl dX10_layBids_90 ?_
          refine zj_getr (n := 94) (q := 122) rfl dX10_layBids_91 zf_X10_31 rfl (by decide) (by decide) rfl ?_
          refine zj_iload3 (n := 95) rfl dX10_layBids_94 ?_
          refine zj_iload1 (n := 96) rfl dX10_layBids_95 ?_
          refine zj_iastore (n := 97) rfl dX10_layBids_96 (by decide) (by decide) (by rw [show zLen 122 = 10 from rfl]; exact zin_at (j := vpos (voffer v d) (vordk v d g) (voffer v d g)) rfl (by omega) (by decide)) ?_
          refine zj_aload0 (n := 98) rfl dX10_layBids_97 ?_
          refine zj_getr (n := 101) (q := 123) rfl dX10_layBids_98 zf_X10_34 rfl (by decide) (by decide) rfl ?_
          refine zj_iload3 (n := 102) rfl dX10_layBids_101 ?_
          refine zj_iload2 (n := 103) rfl dX10_layBids_102 ?_
          refine zj_iastore (n := 104) rfl dX10_layBids_103 (by decide) (by decide) (by rw [show zLen 123 = 10 from rfl]; exact zin_at (j := vpos (voffer v d) (vordk v d g) (voffer v d g)) rfl (by omega) (by decide)) ?_
          refine zj_aload0 (n := 105) rfl dX10_layBids_104 ?_
          refine zj_dupr (n := 106) rfl dX10_layBids_105 ?_
          refine zj_geti (n := 109) rfl dX10_layBids_106 zf_X10_161 rfl (by decide) (by decide) ?_
          refine zj_iconst_1 (n := 110) rfl dX10_layBids_109 ?_
          refine zj_iadd (n := 111) rfl dX10_layBids_110 ?_
          refine zj_puti (n := 114) rfl dX10_layBids_111 zp_X10_161 rfl (by decide) (by decide) ?_
          refine zj_iinc1 (n := 117) rfl dX10_layBids_114 rfl (zi_1 _) (Nat.le_of_ble_eq_true rfl) ?_
          refine zj_goto (tgt := 7) dX10_layBids_117 (by decide) ?_
          rw [ek, c23] at hk
          have e1 : M3.1 118 11 + 1 = nI ((vordk v d g).1 + 1) := by rw [hH.1]; exact nI_1 _
          refine zj_sub (by simp only [zLe, eq_self, Value.int.injEq, and_true, true_and]; exact (nI_1 g).symm) (zj_eq rfl rfl (by dsimp only; rw [zU_off (by decide : (118 : Nat) ≠ 123), zU_off (by decide : (118 : Nat) ≠ 122), e1, nI_clamp (show vpos (voffer v d) (vordk v d g) (voffer v d g) < 2 ^ 31 by omega)]) (hk _ (((hM3.up (zSrI_r (by decide) (by decide))).up (zSrI_r (by decide) (by decide))).up rfl) hH.put))
        · have hnz : ¬ (vordk v d g).1 - t = 0 := fun q => c41 (by rw [q]; decide)
          have e1 : nI ((vordk v d g).1 - t) - 1 = nI ((vordk v d g).1 - t - 1) := pk_sub (b := 1) (by omega)
          obtain ⟨hr1, hr2⟩ := hH.2 ((vordk v d g).1 - t - 1) (by omega) (by omega)
          rw [if_pos (by omega)] at hr1 hr2
          have hof2 := voffer_le v d ((vordk v d g).2 ((vordk v d g).1 - t - 1))
          refine zj_aload0 (n := 45) rfl dX10_layBids_44 ?_
          refine zj_getr (n := 48) (q := 123) rfl dX10_layBids_45 zf_X10_34 rfl (by decide) (by decide) rfl ?_
          refine zj_iload3 (n := 49) rfl dX10_layBids_48 ?_
          refine zj_iconst_1 (n := 50) rfl dX10_layBids_49 ?_
          refine zj_isub (n := 51) rfl dX10_layBids_50 ?_
          refine zj_iaload (n := 52) rfl dX10_layBids_51 (by decide) (by decide) (by rw [show zLen 123 = 10 from rfl]; exact zin_at (j := (vordk v d g).1 - t - 1) e1 (by omega) (by decide)) ?_
          refine zj_iload2 (n := 53) rfl dX10_layBids_52 ?_
          refine zj_icmp_ge (n := 56) (tgt := 90) rfl dX10_layBids_53 (by decide) (fun c53 => ?_) (fun c53 => ?_)
          · have hge : voffer v d g ≤ voffer v d ((vordk v d g).2 ((vordk v d g).1 - t - 1)) := by
              rw [e1, nI_clamp (show (vordk v d g).1 - t - 1 < 2 ^ 31 by omega), hr2] at c53
              exact Nat.le_of_not_lt (fun q => absurd c53 (nI_ge q (by omega)))
            have hpe : vpos (voffer v d) (vordk v d g) (voffer v d g) = (vordk v d g).1 - t := by
              rcases Nat.lt_or_ge ((vordk v d g).1 - t) (vordk v d g).1 with q | q
              · refine zFst_eq q ?_ (fun i hi => ?_)
                · have h9 := hf (t - 1) (by omega)
                  rw [show (vordk v d g).1 - (t - 1) - 1 = (vordk v d g).1 - t from by omega] at h9
                  simp only [Bool.or_eq_false_iff, Bool.not_eq_false'] at h9
                  exact h9.2
                · have h9 := b3 i ((vordk v d g).1 - t - 1)
                  rcases Nat.lt_or_ge i ((vordk v d g).1 - t - 1) with q2 | q2
                  · have := b3 i ((vordk v d g).1 - t - 1) q2 (by omega)
                    exact decide_eq_false (by omega)
                  · have : i = (vordk v d g).1 - t - 1 := by omega
                    rw [this]; exact decide_eq_false (by omega)
              · have et : (vordk v d g).1 - t = (vordk v d g).1 := by omega
                rw [et]
                refine zFst_none.mpr (fun i hi => ?_)
                rw [et] at hge
                rcases Nat.lt_or_ge i ((vordk v d g).1 - 1) with q2 | q2
                · have := b3 i ((vordk v d g).1 - 1) q2 (by omega)
                  exact decide_eq_false (by omega)
                · have : i = (vordk v d g).1 - 1 := by omega
                  rw [this]; exact decide_eq_false (by omega)
            rw [← hpe] at hH ⊢
            refine zj_aload0 (n := 91) rfl dX10_layBids_90 ?_
            refine zj_getr (n := 94) (q := 122) rfl dX10_layBids_91 zf_X10_31 rfl (by decide) (by decide) rfl ?_
            refine zj_iload3 (n := 95) rfl dX10_layBids_94 ?_
            refine zj_iload1 (n := 96) rfl dX10_layBids_95 ?_
            refine zj_iastore (n := 97) rfl dX10_layBids_96 (by decide) (by decide) (by rw [show zLen 122 = 10 from rfl]; exact zin_at (j := vpos (voffer v d) (vordk v d g) (voffer v d g)) rfl (by omega) (by decide)) ?_
            refine zj_aload0 (n := 98) rfl dX10_layBids_97 ?_
            refine zj_getr (n := 101) (q := 123) rfl dX10_layBids_98 zf_X10_34 rfl (by decide) (by decide) rfl ?_
            refine zj_iload3 (n := 102) rfl dX10_layBids_101 ?_
            refine zj_iload2 (n := 103) rfl dX10_layBids_102 ?_
            refine zj_iastore (n := 104) rfl dX10_layBids_103 (by decide) (by decide) (by rw [show zLen 123 = 10 from rfl]; exact zin_at (j := vpos (voffer v d) (vordk v d g) (voffer v d g)) rfl (by omega) (by decide)) ?_
            refine zj_aload0 (n := 105) rfl dX10_layBids_104 ?_
            refine zj_dupr (n := 106) rfl dX10_layBids_105 ?_
            refine zj_geti (n := 109) rfl dX10_layBids_106 zf_X10_161 rfl (by decide) (by decide) ?_
            refine zj_iconst_1 (n := 110) rfl dX10_layBids_109 ?_
            refine zj_iadd (n := 111) rfl dX10_layBids_110 ?_
            refine zj_puti (n := 114) rfl dX10_layBids_111 zp_X10_161 rfl (by decide) (by decide) ?_
            refine zj_iinc1 (n := 117) rfl dX10_layBids_114 rfl (zi_1 _) (Nat.le_of_ble_eq_true rfl) ?_
            refine zj_goto (tgt := 7) dX10_layBids_117 (by decide) ?_
            rw [ek, c23] at hk
            have e1 : M3.1 118 11 + 1 = nI ((vordk v d g).1 + 1) := by rw [hH.1]; exact nI_1 _
            refine zj_sub (by simp only [zLe, eq_self, Value.int.injEq, and_true, true_and]; exact (nI_1 g).symm) (zj_eq rfl rfl (by dsimp only; rw [zU_off (by decide : (118 : Nat) ≠ 123), zU_off (by decide : (118 : Nat) ≠ 122), e1, nI_clamp (show vpos (voffer v d) (vordk v d g) (voffer v d g) < 2 ^ 31 by omega)]) (hk _ (((hM3.up (zSrI_r (by decide) (by decide))).up (zSrI_r (by decide) (by decide))).up rfl) hH.put))
          · have hlt : voffer v d ((vordk v d g).2 ((vordk v d g).1 - t - 1)) < voffer v d g := by
              rw [e1, nI_clamp (show (vordk v d g).1 - t - 1 < 2 ^ 31 by omega), hr2] at c53
              exact Nat.lt_of_not_le (fun q => c53 (nI_le q (by omega)))
            refine zj_aload0 (n := 57) rfl dX10_layBids_56 ?_
            refine zj_getr (n := 60) (q := 122) rfl dX10_layBids_57 zf_X10_31 rfl (by decide) (by decide) rfl ?_
            refine zj_iload3 (n := 61) rfl dX10_layBids_60 ?_
            refine zj_aload0 (n := 62) rfl dX10_layBids_61 ?_
            refine zj_getr (n := 65) (q := 122) rfl dX10_layBids_62 zf_X10_31 rfl (by decide) (by decide) rfl ?_
            refine zj_iload3 (n := 66) rfl dX10_layBids_65 ?_
            refine zj_iconst_1 (n := 67) rfl dX10_layBids_66 ?_
            refine zj_isub (n := 68) rfl dX10_layBids_67 ?_
            refine zj_iaload (n := 69) rfl dX10_layBids_68 (by decide) (by decide) (by rw [show zLen 122 = 10 from rfl]; exact zin_at (j := (vordk v d g).1 - t - 1) e1 (by omega) (by decide)) ?_
            refine zj_iastore (n := 70) rfl dX10_layBids_69 (by decide) (by decide) (by rw [show zLen 122 = 10 from rfl]; exact zin_at (j := (vordk v d g).1 - t) rfl (by omega) (by decide)) ?_
            refine zj_aload0 (n := 71) rfl dX10_layBids_70 ?_
            refine zj_getr (n := 74) (q := 123) rfl dX10_layBids_71 zf_X10_34 rfl (by decide) (by decide) rfl ?_
            refine zj_iload3 (n := 75) rfl dX10_layBids_74 ?_
            refine zj_aload0 (n := 76) rfl dX10_layBids_75 ?_
            refine zj_getr (n := 79) (q := 123) rfl dX10_layBids_76 zf_X10_34 rfl (by decide) (by decide) rfl ?_
            refine zj_iload3 (n := 80) rfl dX10_layBids_79 ?_
            refine zj_iconst_1 (n := 81) rfl dX10_layBids_80 ?_
            refine zj_isub (n := 82) rfl dX10_layBids_81 ?_
            refine zj_iaload (n := 83) rfl dX10_layBids_82 (by decide) (by decide) (by rw [show zLen 123 = 10 from rfl]; exact zin_at (j := (vordk v d g).1 - t - 1) e1 (by omega) (by decide)) ?_
            refine zj_iastore (n := 84) rfl dX10_layBids_83 (by decide) (by decide) (by rw [show zLen 123 = 10 from rfl]; exact zin_at (j := (vordk v d g).1 - t) rfl (by omega) (by decide)) ?_
            refine zj_iinc3 (n := 87) rfl dX10_layBids_84 rfl (zi_m1 _) (Nat.le_of_ble_eq_true rfl) ?_
            refine zj_goto (tgt := 40) dX10_layBids_87 (by decide) ?_
            refine zj_sub (l' := [some (.ref 118), some (.int (nI g)), some (.int (nI (voffer v d g))), some (.int (nI ((vordk v d g).1 - (t + 1))))]) (by simp only [zLe, eq_self, Value.int.injEq, and_true, true_and]; rw [show (vordk v d g).1 - t = ((vordk v d g).1 - (t + 1)) + 1 from by omega]; exact (pk_m1 _).symm) ?_
            refine zj_eq rfl rfl ?_ (hk3 (by simp [hnz, hlt]) _ ((hM3.up (k := 122) (j := (vordk v d g).1 - t) (zSrI_r (by decide) (by decide))).up (k := 123) (j := (vordk v d g).1 - t) (zSrI_r (by decide) (by decide))) (by rw [show (vordk v d g).1 - (t + 1) = (vordk v d g).1 - t - 1 from by omega]; exact hH.step (by omega) (by omega) rfl rfl))
            dsimp only
            rw [e1, nI_clamp (show (vordk v d g).1 - t - 1 < 2 ^ 31 by omega), nI_clamp (show (vordk v d g).1 - t < 2 ^ 31 by omega), zU_off (by decide : (123 : Nat) ≠ 122), hr1, hr2]
      · intro hf
        have := hf (vordk v d g).1 (by omega)
        simp at this
    · refine zj_goto (tgt := 114) dX10_layBids_26 (by decide) ?_
      refine zj_iinc1 (n := 117) rfl dX10_layBids_114 rfl (zi_1 _) (Nat.le_of_ble_eq_true rfl) ?_
      refine zj_goto (tgt := 7) dX10_layBids_117 (by decide) ?_
      simp only [zb_eq0] at c23
      rw [ek, c23] at hk
      exact zj_sub (by simp only [zLe, eq_self, Value.int.injEq, and_true, true_and]; exact (nI_1 g).symm) (hk _ (hM.tr (zSr.ofL hL)) hB)
  · intro M1 hM hB
    refine zj_iload1 (n := 8) rfl dX10_layBids_7 ?_
    refine zj_aload0 (n := 9) rfl dX10_layBids_8 ?_
    refine zj_getr (n := 12) (q := w) rfl dX10_layBids_9 zf_X10_24 rfl (by decide) (by decide) (hM.ra hA).now ?_
    refine zj_bipush (v := 8) (n := 14) rfl dX10_layBids_12 (by decide) ?_
    refine zj_iaload (n := 15) rfl dX10_layBids_14 hA.2.1.lt hA.2.1.ty ((hM.ra hA).in (x := 8) (j := 8) rfl (by decide)) ?_
    refine zj_icmp_ge (n := 18) (tgt := 120) rfl dX10_layBids_15 (by decide) (fun c15 => ?_) (fun c15 => absurd c15 (fun q => q (by rw [(hM.ra hA).at (x := 8) (j := 8) rfl (by decide)]; exact nI_le (Nat.le_refl _) (by omega))))
    refine zj_iconst_0 (n := 121) rfl dX10_layBids_120 ?_
    refine zj_istore1 (n := 122) rfl dX10_layBids_121 rfl (Nat.le_of_ble_eq_true rfl) ?_
    obtain ⟨b1, b2, b3, b4, b5, b6⟩ := vord_ok v d
    have hm10 : (vord v d).1 ≤ 10 := by omega
    refine zFor_rule (P := fun k (_ : Unit) => ∀ M4, zSr M M4 → zBv M4 (voffer v d) (vord v d) → (∀ i, i < k → M4.1 124 i = nI (vneed v d ((vord v d).2 i))) → zJ yX10_layBids cX10_layBids 4 none rX10_layBids Q X 0 0 122 [some (.ref 118), some (.int (nI k)), none, none] [] M4) (n := (vord v d).1) (f := fun _ s => s) (s0 := ()) ?_ ?_ _ hM hB (fun i hi => absurd hi (Nat.not_lt_zero i))
    · intro k _ hk9 hk4 M4 hM4 hB4 hN4
      have hgk := (b2 k hk9).1
      refine zj_iload1 (n := 123) rfl dX10_layBids_122 ?_
      refine zj_aload0 (n := 124) rfl dX10_layBids_123 ?_
      refine zj_geti (n := 127) rfl dX10_layBids_124 zf_X10_161 rfl (by decide) (by decide) ?_
      refine zj_icmp_ge (n := 130) (tgt := 152) rfl dX10_layBids_127 (by decide) (fun c127 => absurd c127 (by rw [hB4.1]; exact nI_ge hk9 (by omega))) (fun c127 => ?_)
      refine zj_aload0 (n := 131) rfl dX10_layBids_130 ?_
      refine zj_getr (n := 134) (q := 124) rfl dX10_layBids_131 zf_X10_37 rfl (by decide) (by decide) rfl ?_
      refine zj_iload1 (n := 135) rfl dX10_layBids_134 ?_
      refine zj_aload0 (n := 136) rfl dX10_layBids_135 ?_
      refine zj_aload0 (n := 137) rfl dX10_layBids_136 ?_
      refine zj_getr (n := 140) (q := 122) rfl dX10_layBids_137 zf_X10_31 rfl (by decide) (by decide) rfl ?_
      refine zj_iload1 (n := 141) rfl dX10_layBids_140 ?_
      refine zj_iaload (n := 142) rfl dX10_layBids_141 (by decide) (by decide) (by rw [show zLen 122 = 10 from rfl]; exact zin_at (j := k) rfl (by omega) (by decide)) ?_
      rw [nI_clamp (show k < 2 ^ 31 by omega), (hB4.2 k hk9).1]
      refine zj_callV1 (n := 145) (a' := 0) (b' := 0) rfl dX10_layBids_142 zm_X10_152 (by decide) (by decide) rfl (Nat.le_of_ble_eq_true rfl) (Nat.le_of_ble_eq_true rfl) (Nat.le_of_ble_eq_true rfl) (Nat.le_of_ble_eq_true rfl) (jX10_needOf (hM4.ra hA) hW (hM4.td hd) hd2 hgk ?_)
      refine zj_iastore (n := 146) rfl dX10_layBids_145 (by decide) (by decide) (by rw [show zLen 124 = 10 from rfl]; exact zin_at (j := k) rfl (by omega) (by decide)) ?_
      refine zj_iinc1 (n := 149) rfl dX10_layBids_146 rfl (zi_1 _) (Nat.le_of_ble_eq_true rfl) ?_
      refine zj_goto (tgt := 122) dX10_layBids_149 (by decide) ?_
      refine zj_sub (by simp only [zLe, eq_self, Value.int.injEq, and_true, true_and]; exact (nI_1 k).symm) (zj_eq rfl rfl (by rw [nI_clamp (show k < 2 ^ 31 by omega)]) (hk4 (zU M4.1 124 k (nI (vneed v d ((vord v d).2 k))), M4.2) (hM4.up (zSrI_r (by decide) (by decide))) (hB4.off (by decide) (by decide) (by decide)) (fun i hi => by
        show zU M4.1 124 k (nI (vneed v d ((vord v d).2 k))) 124 i = _
        rw [zU_at]
        show (if i = k then _ else _) = _
        by_cases e : i = k
        · rw [if_pos e, e]
        · rw [if_neg e]; exact hN4 i (by omega))))
    · intro M4 hM4 hB4 hN4
      refine zj_iload1 (n := 123) rfl dX10_layBids_122 ?_
      refine zj_aload0 (n := 124) rfl dX10_layBids_123 ?_
      refine zj_geti (n := 127) rfl dX10_layBids_124 zf_X10_161 rfl (by decide) (by decide) ?_
      refine zj_icmp_ge (n := 130) (tgt := 152) rfl dX10_layBids_127 (by decide) (fun c127 => ?_) (fun c127 => absurd c127 (fun q => q (by rw [hB4.1]; exact nI_le (Nat.le_refl _) (by omega))))
      exact zj_return dX10_layBids_152 rfl (h _ hM4 hB4 hN4)
