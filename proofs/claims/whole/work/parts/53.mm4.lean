/-! THE MODEL's changes: move -/
theorem jX10_move {v : zV} {x : Int32} {z : Int32} {t : Int32} {un : Nat} {uv : Nat → zV} {Q : Option Value → zM → Prop} {X : String → zM → Prop} {M : zM} (hA : zRA M 119 v) (hW : zWF v) (hd : M.1 118 4 = nI 0) (hU : zMu M un uv) (h : ∀ M', zMm M M' → M'.1 118 0 = nI (a_move v x z t).1 → zRA M' 119 (skeep (a_move v x z t).1 (vset v (268 + 23 * xn x + 7 + xn z) (xn t)) v un uv).1 → zMu M' (skeep (a_move v x z t).1 (vset v (268 + 23 * xn x + 7 + xn z) (xn t)) v un uv).2.1 (skeep (a_move v x z t).1 (vset v (268 + 23 * xn x + 7 + xn z) (xn t)) v un uv).2.2 → Q (some (.int (a_move v x z t).2)) M') : zJ yX10_move cX10_move 6 (some .int) rX10_move Q X rX10_move.cells rX10_move.slots 0 (zEnt 6 [.ref 118, .int x, .int z, .int t]) [] M := by
  have h6 := hW.nN
  have h7 := hW.tN
  have h8 := hW.gN
  have h9 := hW.hN
  show zJ yX10_move cX10_move 6 (some .int) rX10_move Q X 0 0 0 [some (.ref 118), some (.int x), some (.int z), some (.int t), none, none] [] M
  refine zj_aload0 (n := 1) rfl dX10_move_0 ?_
  refine zj_iload1 (n := 2) rfl dX10_move_1 ?_
  refine zj_callV1 (n := 5) (a' := 0) (b' := 0) rfl dX10_move_2 zm_X10_406 (by decide) (by decide) rfl (Nat.le_of_ble_eq_true rfl) (Nat.le_of_ble_eq_true rfl) (Nat.le_of_ble_eq_true rfl) (Nat.le_of_ble_eq_true rfl) (jX10_isGroup hA (by omega) ?_)
  refine zj_ifB_eq (n := 8) (tgt := 37) rfl dX10_move_5 (by decide) (fun c5 => ?_) (fun c5 => ?_)
  · refine zj_iconstN_0 (n := 38) rfl dX10_move_37 ?_
    refine zj_istore4 (n := 40) rfl dX10_move_38 rfl (Nat.le_of_ble_eq_true rfl) ?_
    refine zj_iload4 (n := 42) rfl dX10_move_40 ?_
    refine zj_ifN_eq (n := 45) (tgt := 93) rfl dX10_move_42 (by decide) (by omega) (fun _ => ?_) (fun h => absurd h (by decide))
    refine zj_iconstN_1 (n := 94) rfl dX10_move_93 ?_
    refine zj_goto (tgt := 98) dX10_move_94 (by decide) ?_
    refine zj_istore5 (n := 100) rfl dX10_move_98 rfl (Nat.le_of_ble_eq_true rfl) ?_
    refine zj_aload0 (n := 101) rfl dX10_move_100 ?_
    refine zj_iload4 (n := 103) rfl dX10_move_101 ?_
    refine zj_iload5 (n := 105) rfl dX10_move_103 ?_
    refine zj_callV2 (n := 108) (a' := 0) (b' := 0) rfl dX10_move_105 zm_X10_395 (by decide) (by decide) rfl (Nat.le_of_ble_eq_true rfl) (Nat.le_of_ble_eq_true rfl) (Nat.le_of_ble_eq_true rfl) (Nat.le_of_ble_eq_true rfl) (jX10_passes2Q (p := false) (q := true) ?_)
    intro M1 hQ1 hF1 hL1 h118 ht1
    have hA1 := hQ1.ra hA
    have hd1 := hQ1.td hd
    rw [show zb (false && true) = nI 0 from rfl]
    refine zj_ifN_eq (n := 111) (tgt := 132) rfl dX10_move_108 (by decide) (by omega) (fun _ => ?_) (fun h => absurd h (by decide))
    refine zj_iconstN_0 (n := 133) rfl dX10_move_132 ?_
    refine zj_ireturn dX10_move_133 rfl rfl ?_
    simp only [a_move, skeep, c5, Bool.false_and, Bool.and_false, Bool.true_and, if_false, Bool.false_eq_true, if_neg (show ¬ (1 : Nat) = 0 by decide)] at h
    exact h M1 (zMm.ofQ hQ1) (by rw [ht1]; rfl) hA1 (hU.ofQ hQ1)
  · obtain ⟨n, hn, rfl⟩ := (zin_iff (by omega)).mp c5
    have hsh := (hW.sh hn).2
    refine zj_aload0 (n := 9) rfl dX10_move_8 ?_
    refine zj_iload3 (n := 10) rfl dX10_move_9 ?_
    refine zj_callV1 (n := 13) (a' := 0) (b' := 0) rfl dX10_move_10 zm_X10_390 (by decide) (by decide) rfl (Nat.le_of_ble_eq_true rfl) (Nat.le_of_ble_eq_true rfl) (Nat.le_of_ble_eq_true rfl) (Nat.le_of_ble_eq_true rfl) (jX10_isNode hA (by omega) ?_)
    refine zj_ifB_eq (n := 16) (tgt := 37) rfl dX10_move_13 (by decide) (fun c13 => ?_) (fun c13 => ?_)
    · refine zj_iconstN_0 (n := 38) rfl dX10_move_37 ?_
      refine zj_istore4 (n := 40) rfl dX10_move_38 rfl (Nat.le_of_ble_eq_true rfl) ?_
      refine zj_iload4 (n := 42) rfl dX10_move_40 ?_
      refine zj_ifN_eq (n := 45) (tgt := 93) rfl dX10_move_42 (by decide) (by omega) (fun _ => ?_) (fun h => absurd h (by decide))
      refine zj_iconstN_1 (n := 94) rfl dX10_move_93 ?_
      refine zj_goto (tgt := 98) dX10_move_94 (by decide) ?_
      refine zj_istore5 (n := 100) rfl dX10_move_98 rfl (Nat.le_of_ble_eq_true rfl) ?_
      refine zj_aload0 (n := 101) rfl dX10_move_100 ?_
      refine zj_iload4 (n := 103) rfl dX10_move_101 ?_
      refine zj_iload5 (n := 105) rfl dX10_move_103 ?_
      refine zj_callV2 (n := 108) (a' := 0) (b' := 0) rfl dX10_move_105 zm_X10_395 (by decide) (by decide) rfl (Nat.le_of_ble_eq_true rfl) (Nat.le_of_ble_eq_true rfl) (Nat.le_of_ble_eq_true rfl) (Nat.le_of_ble_eq_true rfl) (jX10_passes2Q (p := false) (q := true) ?_)
      intro M1 hQ1 hF1 hL1 h118 ht1
      have hA1 := hQ1.ra hA
      have hd1 := hQ1.td hd
      rw [show zb (false && true) = nI 0 from rfl]
      refine zj_ifN_eq (n := 111) (tgt := 132) rfl dX10_move_108 (by decide) (by omega) (fun _ => ?_) (fun h => absurd h (by decide))
      refine zj_iconstN_0 (n := 133) rfl dX10_move_132 ?_
      refine zj_ireturn dX10_move_133 rfl rfl ?_
      simp only [a_move, skeep, c5, c13, Bool.false_and, Bool.and_false, Bool.true_and, if_false, Bool.false_eq_true, if_neg (show ¬ (1 : Nat) = 0 by decide)] at h
      exact h M1 (zMm.ofQ hQ1) (by rw [ht1]; rfl) hA1 (hU.ofQ hQ1)
    · obtain ⟨k, hk, rfl⟩ := (zin_iff (by omega)).mp c13
      have hk4 : v (10 + 12 * k + 4) ≤ 2 := (hW.node hk).2.2.2.2
      have hk3 : v (10 + 12 * k + 3) ≤ 50 := (hW.node hk).2.2.2.1
      refine zj_iload2 (n := 17) rfl dX10_move_16 ?_
      refine zj_i2l (n := 18) rfl dX10_move_17 ?_
      refine zj_lconstN_0 (n := 19) rfl dX10_move_18 ?_
      refine zj_aload0 (n := 20) rfl dX10_move_19 ?_
      refine zj_iload1 (n := 21) rfl dX10_move_20 ?_
      refine zj_callV1 (n := 24) (a' := 0) (b' := 0) rfl dX10_move_21 zm_X10_70 (by decide) (by decide) rfl (Nat.le_of_ble_eq_true rfl) (Nat.le_of_ble_eq_true rfl) (Nat.le_of_ble_eq_true rfl) (Nat.le_of_ble_eq_true rfl) (jX10_shardsOf hA (by omega) ?_)
      refine zj_iconstN_1 (n := 25) rfl dX10_move_24 ?_
      refine zj_isub (n := 26) rfl dX10_move_25 ?_
      refine zj_i2l (n := 27) rfl dX10_move_26 ?_
      refine zj_callS3 (n := 30) (a' := 0) (b' := 0) rfl dX10_move_27 zm_X10_62 (by decide) (Nat.le_of_ble_eq_true rfl) (Nat.le_of_ble_eq_true rfl) (Nat.le_of_ble_eq_true rfl) (Nat.le_of_ble_eq_true rfl) (jX10_inA (by omega) ?_)
      refine zj_ifB_eq (n := 33) (tgt := 37) rfl dX10_move_30 (by decide) (fun c30 => ?_) (fun c30 => ?_)
      · refine zj_iconstN_0 (n := 38) rfl dX10_move_37 ?_
        refine zj_istore4 (n := 40) rfl dX10_move_38 rfl (Nat.le_of_ble_eq_true rfl) ?_
        refine zj_iload4 (n := 42) rfl dX10_move_40 ?_
        refine zj_ifN_eq (n := 45) (tgt := 93) rfl dX10_move_42 (by decide) (by omega) (fun _ => ?_) (fun h => absurd h (by decide))
        refine zj_iconstN_1 (n := 94) rfl dX10_move_93 ?_
        refine zj_goto (tgt := 98) dX10_move_94 (by decide) ?_
        refine zj_istore5 (n := 100) rfl dX10_move_98 rfl (Nat.le_of_ble_eq_true rfl) ?_
        refine zj_aload0 (n := 101) rfl dX10_move_100 ?_
        refine zj_iload4 (n := 103) rfl dX10_move_101 ?_
        refine zj_iload5 (n := 105) rfl dX10_move_103 ?_
        refine zj_callV2 (n := 108) (a' := 0) (b' := 0) rfl dX10_move_105 zm_X10_395 (by decide) (by decide) rfl (Nat.le_of_ble_eq_true rfl) (Nat.le_of_ble_eq_true rfl) (Nat.le_of_ble_eq_true rfl) (Nat.le_of_ble_eq_true rfl) (jX10_passes2Q (p := false) (q := true) ?_)
        intro M1 hQ1 hF1 hL1 h118 ht1
        have hA1 := hQ1.ra hA
        have hd1 := hQ1.td hd
        rw [show zb (false && true) = nI 0 from rfl]
        refine zj_ifN_eq (n := 111) (tgt := 132) rfl dX10_move_108 (by decide) (by omega) (fun _ => ?_) (fun h => absurd h (by decide))
        refine zj_iconstN_0 (n := 133) rfl dX10_move_132 ?_
        refine zj_ireturn dX10_move_133 rfl rfl ?_
        simp only [a_move, skeep, c5, c13, xn_at (show n < 2 ^ 31 by omega), c30, Bool.false_and, Bool.and_false, Bool.true_and, if_false, Bool.false_eq_true, if_neg (show ¬ (1 : Nat) = 0 by decide)] at h
        exact h M1 (zMm.ofQ hQ1) (by rw [ht1]; rfl) hA1 (hU.ofQ hQ1)
      · obtain ⟨j, hj, rfl⟩ := (zin_iff (by omega)).mp c30
        have hh := hW.holds hn hj
        have hh4 : nd v (hol v n j) 4 ≤ 2 := (hW.node hh).2.2.2.2
        refine zj_iconstN_1 (n := 34) rfl dX10_move_33 ?_
        refine zj_goto (tgt := 38) dX10_move_34 (by decide) ?_
        refine zj_istore4 (n := 40) rfl dX10_move_38 rfl (Nat.le_of_ble_eq_true rfl) ?_
        refine zj_iload4 (n := 42) rfl dX10_move_40 ?_
        refine zj_ifN_eq (n := 45) (tgt := 93) rfl dX10_move_42 (by decide) (by omega) (fun h => absurd h (by decide)) (fun _ => ?_)
        refine zj_aload0 (n := 46) rfl dX10_move_45 ?_
        refine zj_iload1 (n := 47) rfl dX10_move_46 ?_
        refine zj_iload2 (n := 48) rfl dX10_move_47 ?_
        refine zj_callV2 (n := 51) (a' := 0) (b' := 0) rfl dX10_move_48 zm_X10_106 (by decide) (by decide) rfl (Nat.le_of_ble_eq_true rfl) (Nat.le_of_ble_eq_true rfl) (Nat.le_of_ble_eq_true rfl) (Nat.le_of_ble_eq_true rfl) (jX10_isAvailable hA hd (by decide) (by omega) (by omega) (by omega) (by omega) ?_)
        refine zj_ifB_eq (n := 54) (tgt := 97) rfl dX10_move_51 (by decide) (fun c51 => ?_) (fun c51 => ?_)
        · refine zj_iconstN_0 (n := 98) rfl dX10_move_97 ?_
          refine zj_istore5 (n := 100) rfl dX10_move_98 rfl (Nat.le_of_ble_eq_true rfl) ?_
          refine zj_aload0 (n := 101) rfl dX10_move_100 ?_
          refine zj_iload4 (n := 103) rfl dX10_move_101 ?_
          refine zj_iload5 (n := 105) rfl dX10_move_103 ?_
          refine zj_callV2 (n := 108) (a' := 0) (b' := 0) rfl dX10_move_105 zm_X10_395 (by decide) (by decide) rfl (Nat.le_of_ble_eq_true rfl) (Nat.le_of_ble_eq_true rfl) (Nat.le_of_ble_eq_true rfl) (Nat.le_of_ble_eq_true rfl) (jX10_passes2Q (p := true) (q := false) ?_)
          intro M1 hQ1 hF1 hL1 h118 ht1
          have hA1 := hQ1.ra hA
          have hd1 := hQ1.td hd
          rw [show zb (true && false) = nI 0 from rfl]
          refine zj_ifN_eq (n := 111) (tgt := 132) rfl dX10_move_108 (by decide) (by omega) (fun _ => ?_) (fun h => absurd h (by decide))
          refine zj_iconstN_0 (n := 133) rfl dX10_move_132 ?_
          refine zj_ireturn dX10_move_133 rfl rfl ?_
          have e : vcanm v n j k = false := by unfold vcanm; rw [c51]; rfl
          simp only [a_move, skeep, c5, c13, c30, xn_at (show n < 2 ^ 31 by omega), xn_at (show k < 2 ^ 31 by omega), xn_at (show j < 2 ^ 31 by omega), e, Bool.true_and, if_true, if_false, Bool.false_eq_true, if_neg (show ¬ (2 : Nat) = 0 by decide)] at h
          exact h M1 (zMm.ofQ hQ1) (by rw [ht1]; rfl) hA1 (hU.ofQ hQ1)
        · refine zj_aload0 (n := 55) rfl dX10_move_54 ?_
          refine zj_iload3 (n := 56) rfl dX10_move_55 ?_
          refine zj_iconstN_4 (n := 57) rfl dX10_move_56 ?_
          refine zj_callV2 (n := 60) (a' := 0) (b' := 0) rfl dX10_move_57 zm_X10_77 (by decide) (by decide) rfl (Nat.le_of_ble_eq_true rfl) (Nat.le_of_ble_eq_true rfl) (Nat.le_of_ble_eq_true rfl) (Nat.le_of_ble_eq_true rfl) (jX10_nodeValue (c := 4) hA (by omega) ?_)
          refine zj_ifN_ne (n := 63) (tgt := 97) rfl dX10_move_60 (by decide) (by omega) (fun c60 => ?_) (fun c60 => ?_)
          · refine zj_iconstN_0 (n := 98) rfl dX10_move_97 ?_
            refine zj_istore5 (n := 100) rfl dX10_move_98 rfl (Nat.le_of_ble_eq_true rfl) ?_
            refine zj_aload0 (n := 101) rfl dX10_move_100 ?_
            refine zj_iload4 (n := 103) rfl dX10_move_101 ?_
            refine zj_iload5 (n := 105) rfl dX10_move_103 ?_
            refine zj_callV2 (n := 108) (a' := 0) (b' := 0) rfl dX10_move_105 zm_X10_395 (by decide) (by decide) rfl (Nat.le_of_ble_eq_true rfl) (Nat.le_of_ble_eq_true rfl) (Nat.le_of_ble_eq_true rfl) (Nat.le_of_ble_eq_true rfl) (jX10_passes2Q (p := true) (q := false) ?_)
            intro M1 hQ1 hF1 hL1 h118 ht1
            have hA1 := hQ1.ra hA
            have hd1 := hQ1.td hd
            rw [show zb (true && false) = nI 0 from rfl]
            refine zj_ifN_eq (n := 111) (tgt := 132) rfl dX10_move_108 (by decide) (by omega) (fun _ => ?_) (fun h => absurd h (by decide))
            refine zj_iconstN_0 (n := 133) rfl dX10_move_132 ?_
            refine zj_ireturn dX10_move_133 rfl rfl ?_
            have e : vcanm v n j k = false := by unfold vcanm; rw [show (v (10 + 12 * k + 4) == 0) = false from beq_false_of_ne (by omega)]; simp
            simp only [a_move, skeep, c5, c13, c30, xn_at (show n < 2 ^ 31 by omega), xn_at (show k < 2 ^ 31 by omega), xn_at (show j < 2 ^ 31 by omega), e, Bool.true_and, if_true, if_false, Bool.false_eq_true, if_neg (show ¬ (2 : Nat) = 0 by decide)] at h
            exact h M1 (zMm.ofQ hQ1) (by rw [ht1]; rfl) hA1 (hU.ofQ hQ1)
          · refine zj_aload0 (n := 64) rfl dX10_move_63 ?_
            refine zj_iload1 (n := 65) rfl dX10_move_64 ?_
            refine zj_aload0 (n := 66) rfl dX10_move_65 ?_
            refine zj_iload1 (n := 67) rfl dX10_move_66 ?_
            refine zj_callV1 (n := 70) (a' := 0) (b' := 0) rfl dX10_move_67 zm_X10_70 (by decide) (by decide) rfl (Nat.le_of_ble_eq_true rfl) (Nat.le_of_ble_eq_true rfl) (Nat.le_of_ble_eq_true rfl) (Nat.le_of_ble_eq_true rfl) (jX10_shardsOf hA (by omega) ?_)
            refine zj_iload3 (n := 71) rfl dX10_move_70 ?_
            refine zj_callV3 (n := 74) (a' := 0) (b' := 0) rfl dX10_move_71 zm_X10_83 (by decide) (by decide) rfl (Nat.le_of_ble_eq_true rfl) (Nat.le_of_ble_eq_true rfl) (Nat.le_of_ble_eq_true rfl) (Nat.le_of_ble_eq_true rfl) (jX10_hasShardOn hA (by omega) (by omega) (fun s hs => by have := hW.holds hn hs; omega) (by omega) ?_)
            refine zj_ifB_ne (n := 77) (tgt := 97) rfl dX10_move_74 (by decide) (fun c74 => ?_) (fun c74 => ?_)
            · refine zj_iconstN_0 (n := 98) rfl dX10_move_97 ?_
              refine zj_istore5 (n := 100) rfl dX10_move_98 rfl (Nat.le_of_ble_eq_true rfl) ?_
              refine zj_aload0 (n := 101) rfl dX10_move_100 ?_
              refine zj_iload4 (n := 103) rfl dX10_move_101 ?_
              refine zj_iload5 (n := 105) rfl dX10_move_103 ?_
              refine zj_callV2 (n := 108) (a' := 0) (b' := 0) rfl dX10_move_105 zm_X10_395 (by decide) (by decide) rfl (Nat.le_of_ble_eq_true rfl) (Nat.le_of_ble_eq_true rfl) (Nat.le_of_ble_eq_true rfl) (Nat.le_of_ble_eq_true rfl) (jX10_passes2Q (p := true) (q := false) ?_)
              intro M1 hQ1 hF1 hL1 h118 ht1
              have hA1 := hQ1.ra hA
              have hd1 := hQ1.td hd
              rw [show zb (true && false) = nI 0 from rfl]
              refine zj_ifN_eq (n := 111) (tgt := 132) rfl dX10_move_108 (by decide) (by omega) (fun _ => ?_) (fun h => absurd h (by decide))
              refine zj_iconstN_0 (n := 133) rfl dX10_move_132 ?_
              refine zj_ireturn dX10_move_133 rfl rfl ?_
              have e : vcanm v n j k = false := by unfold vcanm; rw [c74]; simp
              simp only [a_move, skeep, c5, c13, c30, xn_at (show n < 2 ^ 31 by omega), xn_at (show k < 2 ^ 31 by omega), xn_at (show j < 2 ^ 31 by omega), e, Bool.true_and, if_true, if_false, Bool.false_eq_true, if_neg (show ¬ (2 : Nat) = 0 by decide)] at h
              exact h M1 (zMm.ofQ hQ1) (by rw [ht1]; rfl) hA1 (hU.ofQ hQ1)
            · refine zj_aload0 (n := 78) rfl dX10_move_77 ?_
              refine zj_iload3 (n := 79) rfl dX10_move_78 ?_
              refine zj_iconstN_0 (n := 80) rfl dX10_move_79 ?_
              refine zj_iconstN_0 (n := 81) rfl dX10_move_80 ?_
              refine zj_callV3 (n := 84) (a' := 0) (b' := 0) rfl dX10_move_81 zm_X10_87 (by decide) (by decide) rfl (Nat.le_of_ble_eq_true rfl) (Nat.le_of_ble_eq_true rfl) (Nat.le_of_ble_eq_true rfl) (Nat.le_of_ble_eq_true rfl) (jX10_shardsOn (more := 0) (few := 0) hA h8 (fun g hg => (hW.sh hg).2) (fun g s hg hs => by have := hW.holds hg hs; omega) (by decide) (by decide) (fun s hs => absurd hs (Nat.not_lt_zero s)) (by omega) ?_)
              rw [show zFor 0 (fun s a => if hol v 0 s = k then a + 1 else a) (vcnt v (v 8) k) = vcnt v (v 8) k from rfl]
              refine zj_aload0 (n := 85) rfl dX10_move_84 ?_
              refine zj_iload3 (n := 86) rfl dX10_move_85 ?_
              refine zj_iconstN_3 (n := 87) rfl dX10_move_86 ?_
              refine zj_callV2 (n := 90) (a' := 0) (b' := 0) rfl dX10_move_87 zm_X10_77 (by decide) (by decide) rfl (Nat.le_of_ble_eq_true rfl) (Nat.le_of_ble_eq_true rfl) (Nat.le_of_ble_eq_true rfl) (Nat.le_of_ble_eq_true rfl) (jX10_nodeValue (c := 3) hA (by omega) ?_)
              refine zj_icmpN_ge (n := 93) (tgt := 97) rfl dX10_move_90 (by decide) (by first | omega | (have := hW.cnt k; omega)) (by first | omega | (have := hW.cnt k; omega)) (fun c90 => ?_) (fun c90 => ?_)
              · refine zj_iconstN_0 (n := 98) rfl dX10_move_97 ?_
                refine zj_istore5 (n := 100) rfl dX10_move_98 rfl (Nat.le_of_ble_eq_true rfl) ?_
                refine zj_aload0 (n := 101) rfl dX10_move_100 ?_
                refine zj_iload4 (n := 103) rfl dX10_move_101 ?_
                refine zj_iload5 (n := 105) rfl dX10_move_103 ?_
                refine zj_callV2 (n := 108) (a' := 0) (b' := 0) rfl dX10_move_105 zm_X10_395 (by decide) (by decide) rfl (Nat.le_of_ble_eq_true rfl) (Nat.le_of_ble_eq_true rfl) (Nat.le_of_ble_eq_true rfl) (Nat.le_of_ble_eq_true rfl) (jX10_passes2Q (p := true) (q := false) ?_)
                intro M1 hQ1 hF1 hL1 h118 ht1
                have hA1 := hQ1.ra hA
                have hd1 := hQ1.td hd
                rw [show zb (true && false) = nI 0 from rfl]
                refine zj_ifN_eq (n := 111) (tgt := 132) rfl dX10_move_108 (by decide) (by omega) (fun _ => ?_) (fun h => absurd h (by decide))
                refine zj_iconstN_0 (n := 133) rfl dX10_move_132 ?_
                refine zj_ireturn dX10_move_133 rfl rfl ?_
                have e : vcanm v n j k = false := by unfold vcanm; rw [decide_eq_false (show ¬ vcnt v (v 8) k < v (10 + 12 * k + 3) by omega)]; simp
                simp only [a_move, skeep, c5, c13, c30, xn_at (show n < 2 ^ 31 by omega), xn_at (show k < 2 ^ 31 by omega), xn_at (show j < 2 ^ 31 by omega), e, Bool.true_and, if_true, if_false, Bool.false_eq_true, if_neg (show ¬ (2 : Nat) = 0 by decide)] at h
                exact h M1 (zMm.ofQ hQ1) (by rw [ht1]; rfl) hA1 (hU.ofQ hQ1)
              · refine zj_iconstN_1 (n := 94) rfl dX10_move_93 ?_
                refine zj_goto (tgt := 98) dX10_move_94 (by decide) ?_
                refine zj_istore5 (n := 100) rfl dX10_move_98 rfl (Nat.le_of_ble_eq_true rfl) ?_
                refine zj_aload0 (n := 101) rfl dX10_move_100 ?_
                refine zj_iload4 (n := 103) rfl dX10_move_101 ?_
                refine zj_iload5 (n := 105) rfl dX10_move_103 ?_
                refine zj_callV2 (n := 108) (a' := 0) (b' := 0) rfl dX10_move_105 zm_X10_395 (by decide) (by decide) rfl (Nat.le_of_ble_eq_true rfl) (Nat.le_of_ble_eq_true rfl) (Nat.le_of_ble_eq_true rfl) (Nat.le_of_ble_eq_true rfl) (jX10_passes2Q (p := true) (q := true) ?_)
                intro M1 hQ1 hF1 hL1 h118 ht1
                have hA1 := hQ1.ra hA
                have hd1 := hQ1.td hd
                rw [show zb (true && true) = nI 1 from rfl]
                refine zj_ifN_eq (n := 111) (tgt := 132) rfl dX10_move_108 (by decide) (by omega) (fun h => absurd h (by decide)) (fun _ => ?_)
                refine zj_aload0 (n := 112) rfl dX10_move_111 ?_
                refine zj_sipushN (v := 268) (n := 115) rfl dX10_move_112 (by decide) ?_
                refine zj_bipushN (v := 23) (n := 117) rfl dX10_move_115 (by decide) ?_
                refine zj_iload1 (n := 118) rfl dX10_move_117 ?_
                refine zj_imulN (n := 119) rfl dX10_move_118 ?_
                refine zj_iaddN (n := 120) rfl dX10_move_119 ?_
                refine zj_bipushN (v := 7) (n := 122) rfl dX10_move_120 (by decide) ?_
                refine zj_iaddN (n := 123) rfl dX10_move_122 ?_
                refine zj_iload2 (n := 124) rfl dX10_move_123 ?_
                refine zj_iaddN (n := 125) rfl dX10_move_124 ?_
                refine zj_iload3 (n := 126) rfl dX10_move_125 ?_
                refine zj_callV2 (n := 129) (a' := 0) (b' := 0) rfl dX10_move_126 zm_X10_433 (by decide) (by decide) rfl (Nat.le_of_ble_eq_true rfl) (Nat.le_of_ble_eq_true rfl) (Nat.le_of_ble_eq_true rfl) (Nat.le_of_ble_eq_true rfl) (jX10_set hA1 (hU.ofQ hQ1) (by omega) ?_)
                intro M2 hm2 hA2 hU2 ht2
                have hm3 := (zMm.ofQ hQ1).tr hm2
                refine zj_goto (tgt := 133) dX10_move_129 (by decide) ?_
                refine zj_ireturn dX10_move_133 rfl rfl ?_
                have e : vcanm v n j k = true := by unfold vcanm; rw [c51, c74, show (v (10 + 12 * k + 4) == 0) = true from beq_iff_eq.mpr c60, decide_eq_true c90]; rfl
                simp only [a_move, skeep, c5, c13, c30, xn_at (show n < 2 ^ 31 by omega), xn_at (show k < 2 ^ 31 by omega), xn_at (show j < 2 ^ 31 by omega), e, Bool.true_and, if_true] at h
                refine zQi (h M2 hm3 (by rw [ht2, ht1]; rfl) hA2 hU2) ?_
                exact congrArg (fun i => nI (v i)) (show 268 + 23 * n + (7 + j) = 268 + 23 * n + 7 + j by omega)
