/-! TABLES. A table is the cell k (columns, its row of ints, size), its row of ints the cell k + 1 -/
def zTb (k : Nat) : Prop := k < 133 ∧ zTy k = 6 ∧ k + 1 < 133 ∧ zTy (k + 1) = 20
abbrev tcell (M : zM) (k : Nat) (row col : Int32) : Int32 := row * M.1 k 0 + col
abbrev tin (M : zM) (k : Nat) (row col : Int32) : Prop := ¬ row < 0 ∧ ¬ M.1 k 2 ≤ row ∧ ¬ col < 0 ∧ ¬ M.1 k 0 ≤ col ∧ ¬ tcell M k row col < 0 ∧ ¬ Int32.ofNat (zLen (k + 1)) ≤ tcell M k row col
def tget (M : zM) (k : Nat) (row col : Int32) : Int32 := if tin M k row col then M.1 (k + 1) (tcell M k row col).toNatClampNeg else 0
def tset (M : zM) (k : Nat) (row col v : Int32) : zM := if tin M k row col then (zU M.1 (k + 1) (tcell M k row col).toNatClampNeg v, M.2) else M
def tinc (M : zM) (k : Nat) (row col v : Int32) : zM := tset M k row col (tget M k row col + v)
theorem jX7_get {k : Nat} {row col : Int32} {Q : Option Value → zM → Prop} {X : String → zM → Prop} {M : zM} (hT : zTb k) (h : Q (some (.int (tget M k row col))) M) : zJ yX7_get cX7_get 5 (some .int) rX7_get Q X rX7_get.cells rX7_get.slots 0 (zEnt 5 [.ref k, .int row, .int col]) [] M := by
  show zJ yX7_get cX7_get 5 (some .int) rX7_get Q X 0 0 0 [some (.ref k), some (.int row), some (.int col), none, none] [] M
  refine zj_iload1 (n := 1) rfl dX7_get_0 ?_
  refine zj_aload0 (n := 2) rfl dX7_get_1 ?_
  refine zj_geti (n := 5) rfl dX7_get_2 zf_X7_9 rfl hT.1 hT.2.1 ?_
  refine zj_imul (n := 6) rfl dX7_get_5 ?_
  refine zj_iload2 (n := 7) rfl dX7_get_6 ?_
  refine zj_iadd (n := 8) rfl dX7_get_7 ?_
  refine zj_istore3 (n := 9) rfl dX7_get_8 rfl (Nat.le_of_ble_eq_true rfl) ?_
  refine zj_iload1 (n := 10) rfl dX7_get_9 ?_
  refine zj_if_lt (n := 13) (tgt := 37) rfl dX7_get_10 (by decide) (fun c10 => ?_) (fun c10 => ?_)
  · refine zj_iconst_0 (n := 38) rfl dX7_get_37 ?_
    refine zj_istore4 (n := 40) rfl dX7_get_38 rfl (Nat.le_of_ble_eq_true rfl) ?_
    refine zj_iload4 (n := 42) rfl dX7_get_40 ?_
    refine zj_if_eq (n := 45) (tgt := 67) rfl dX7_get_42 (by decide) (fun _ => ?_) (fun h => absurd h (by decide))
    refine zj_iconst_0 (n := 68) rfl dX7_get_67 ?_
    exact zj_ireturn dX7_get_68 rfl rfl (zQi h (by unfold tget; first | exact if_pos ⟨by assumption, by assumption, by assumption, by assumption, by assumption, by assumption⟩ | exact if_neg (fun q => by obtain ⟨q1, q2, q3, q4, q5, q6⟩ := q; contradiction)))
  · refine zj_iload1 (n := 14) rfl dX7_get_13 ?_
    refine zj_aload0 (n := 15) rfl dX7_get_14 ?_
    refine zj_geti (n := 18) rfl dX7_get_15 zf_X7_25 rfl hT.1 hT.2.1 ?_
    refine zj_icmp_ge (n := 21) (tgt := 37) rfl dX7_get_18 (by decide) (fun c18 => ?_) (fun c18 => ?_)
    · refine zj_iconst_0 (n := 38) rfl dX7_get_37 ?_
      refine zj_istore4 (n := 40) rfl dX7_get_38 rfl (Nat.le_of_ble_eq_true rfl) ?_
      refine zj_iload4 (n := 42) rfl dX7_get_40 ?_
      refine zj_if_eq (n := 45) (tgt := 67) rfl dX7_get_42 (by decide) (fun _ => ?_) (fun h => absurd h (by decide))
      refine zj_iconst_0 (n := 68) rfl dX7_get_67 ?_
      exact zj_ireturn dX7_get_68 rfl rfl (zQi h (by unfold tget; first | exact if_pos ⟨by assumption, by assumption, by assumption, by assumption, by assumption, by assumption⟩ | exact if_neg (fun q => by obtain ⟨q1, q2, q3, q4, q5, q6⟩ := q; contradiction)))
    · refine zj_iload2 (n := 22) rfl dX7_get_21 ?_
      refine zj_if_lt (n := 25) (tgt := 37) rfl dX7_get_22 (by decide) (fun c22 => ?_) (fun c22 => ?_)
      · refine zj_iconst_0 (n := 38) rfl dX7_get_37 ?_
        refine zj_istore4 (n := 40) rfl dX7_get_38 rfl (Nat.le_of_ble_eq_true rfl) ?_
        refine zj_iload4 (n := 42) rfl dX7_get_40 ?_
        refine zj_if_eq (n := 45) (tgt := 67) rfl dX7_get_42 (by decide) (fun _ => ?_) (fun h => absurd h (by decide))
        refine zj_iconst_0 (n := 68) rfl dX7_get_67 ?_
        exact zj_ireturn dX7_get_68 rfl rfl (zQi h (by unfold tget; first | exact if_pos ⟨by assumption, by assumption, by assumption, by assumption, by assumption, by assumption⟩ | exact if_neg (fun q => by obtain ⟨q1, q2, q3, q4, q5, q6⟩ := q; contradiction)))
      · refine zj_iload2 (n := 26) rfl dX7_get_25 ?_
        refine zj_aload0 (n := 27) rfl dX7_get_26 ?_
        refine zj_geti (n := 30) rfl dX7_get_27 zf_X7_9 rfl hT.1 hT.2.1 ?_
        refine zj_icmp_ge (n := 33) (tgt := 37) rfl dX7_get_30 (by decide) (fun c30 => ?_) (fun c30 => ?_)
        · refine zj_iconst_0 (n := 38) rfl dX7_get_37 ?_
          refine zj_istore4 (n := 40) rfl dX7_get_38 rfl (Nat.le_of_ble_eq_true rfl) ?_
          refine zj_iload4 (n := 42) rfl dX7_get_40 ?_
          refine zj_if_eq (n := 45) (tgt := 67) rfl dX7_get_42 (by decide) (fun _ => ?_) (fun h => absurd h (by decide))
          refine zj_iconst_0 (n := 68) rfl dX7_get_67 ?_
          exact zj_ireturn dX7_get_68 rfl rfl (zQi h (by unfold tget; first | exact if_pos ⟨by assumption, by assumption, by assumption, by assumption, by assumption, by assumption⟩ | exact if_neg (fun q => by obtain ⟨q1, q2, q3, q4, q5, q6⟩ := q; contradiction)))
        · refine zj_iconst_1 (n := 34) rfl dX7_get_33 ?_
          refine zj_goto (tgt := 38) dX7_get_34 (by decide) ?_
          refine zj_istore4 (n := 40) rfl dX7_get_38 rfl (Nat.le_of_ble_eq_true rfl) ?_
          refine zj_iload4 (n := 42) rfl dX7_get_40 ?_
          refine zj_if_eq (n := 45) (tgt := 67) rfl dX7_get_42 (by decide) (fun h => absurd h (by decide)) (fun _ => ?_)
          refine zj_iload3 (n := 46) rfl dX7_get_45 ?_
          refine zj_if_lt (n := 49) (tgt := 67) rfl dX7_get_46 (by decide) (fun c46 => ?_) (fun c46 => ?_)
          · refine zj_iconst_0 (n := 68) rfl dX7_get_67 ?_
            exact zj_ireturn dX7_get_68 rfl rfl (zQi h (by unfold tget; first | exact if_pos ⟨by assumption, by assumption, by assumption, by assumption, by assumption, by assumption⟩ | exact if_neg (fun q => by obtain ⟨q1, q2, q3, q4, q5, q6⟩ := q; contradiction)))
          · refine zj_iload3 (n := 50) rfl dX7_get_49 ?_
            refine zj_aload0 (n := 51) rfl dX7_get_50 ?_
            refine zj_getr (n := 54) (q := k + 1) rfl dX7_get_51 zf_X7_21 rfl hT.1 hT.2.1 rfl ?_
            refine zj_arraylength (n := 55) (v := (Int32.ofNat (zLen (k + 1)))) rfl dX7_get_54 hT.2.2.1 (Or.inl hT.2.2.2) (by rw [if_neg (by rw [hT.2.2.2]; decide)]) ?_
            refine zj_icmp_ge (n := 58) (tgt := 67) rfl dX7_get_55 (by decide) (fun c55 => ?_) (fun c55 => ?_)
            · refine zj_iconst_0 (n := 68) rfl dX7_get_67 ?_
              exact zj_ireturn dX7_get_68 rfl rfl (zQi h (by unfold tget; first | exact if_pos ⟨by assumption, by assumption, by assumption, by assumption, by assumption, by assumption⟩ | exact if_neg (fun q => by obtain ⟨q1, q2, q3, q4, q5, q6⟩ := q; contradiction)))
            · refine zj_aload0 (n := 59) rfl dX7_get_58 ?_
              refine zj_getr (n := 62) (q := k + 1) rfl dX7_get_59 zf_X7_21 rfl hT.1 hT.2.1 rfl ?_
              refine zj_iload3 (n := 63) rfl dX7_get_62 ?_
              refine zj_iaload (n := 64) rfl dX7_get_63 hT.2.2.1 hT.2.2.2 (zin_len (by assumption) (by assumption)) ?_
              refine zj_goto (tgt := 68) dX7_get_64 (by decide) ?_
              exact zj_ireturn dX7_get_68 rfl rfl (zQi h (by unfold tget; first | exact if_pos ⟨by assumption, by assumption, by assumption, by assumption, by assumption, by assumption⟩ | exact if_neg (fun q => by obtain ⟨q1, q2, q3, q4, q5, q6⟩ := q; contradiction)))
theorem jX7_set {k : Nat} {row col v : Int32} {Q : Option Value → zM → Prop} {X : String → zM → Prop} {M : zM} (hT : zTb k) (h : Q none (tset M k row col v)) : zJ yX7_set cX7_set 6 none rX7_set Q X rX7_set.cells rX7_set.slots 0 (zEnt 6 [.ref k, .int row, .int col, .int v]) [] M := by
  show zJ yX7_set cX7_set 6 none rX7_set Q X 0 0 0 [some (.ref k), some (.int row), some (.int col), some (.int v), none, none] [] M
  refine zj_iload1 (n := 1) rfl dX7_set_0 ?_
  refine zj_aload0 (n := 2) rfl dX7_set_1 ?_
  refine zj_geti (n := 5) rfl dX7_set_2 zf_X7_9 rfl hT.1 hT.2.1 ?_
  refine zj_imul (n := 6) rfl dX7_set_5 ?_
  refine zj_iload2 (n := 7) rfl dX7_set_6 ?_
  refine zj_iadd (n := 8) rfl dX7_set_7 ?_
  refine zj_istore4 (n := 10) rfl dX7_set_8 rfl (Nat.le_of_ble_eq_true rfl) ?_
  refine zj_iload1 (n := 11) rfl dX7_set_10 ?_
  refine zj_if_lt (n := 14) (tgt := 38) rfl dX7_set_11 (by decide) (fun c11 => ?_) (fun c11 => ?_)
  · refine zj_iconst_0 (n := 39) rfl dX7_set_38 ?_
    refine zj_istore5 (n := 41) rfl dX7_set_39 rfl (Nat.le_of_ble_eq_true rfl) ?_
    refine zj_iload5 (n := 43) rfl dX7_set_41 ?_
    refine zj_if_eq (n := 46) (tgt := 69) rfl dX7_set_43 (by decide) (fun _ => ?_) (fun h => absurd h (by decide))
    exact zj_return dX7_set_69 rfl (by first | (rw [show tset M k row col v = _ from if_pos ⟨by assumption, by assumption, by assumption, by assumption, by assumption, by assumption⟩] at h; exact h) | (rw [show tset M k row col v = M from if_neg (fun q => by obtain ⟨q1, q2, q3, q4, q5, q6⟩ := q; contradiction)] at h; exact h))
  · refine zj_iload1 (n := 15) rfl dX7_set_14 ?_
    refine zj_aload0 (n := 16) rfl dX7_set_15 ?_
    refine zj_geti (n := 19) rfl dX7_set_16 zf_X7_25 rfl hT.1 hT.2.1 ?_
    refine zj_icmp_ge (n := 22) (tgt := 38) rfl dX7_set_19 (by decide) (fun c19 => ?_) (fun c19 => ?_)
    · refine zj_iconst_0 (n := 39) rfl dX7_set_38 ?_
      refine zj_istore5 (n := 41) rfl dX7_set_39 rfl (Nat.le_of_ble_eq_true rfl) ?_
      refine zj_iload5 (n := 43) rfl dX7_set_41 ?_
      refine zj_if_eq (n := 46) (tgt := 69) rfl dX7_set_43 (by decide) (fun _ => ?_) (fun h => absurd h (by decide))
      exact zj_return dX7_set_69 rfl (by first | (rw [show tset M k row col v = _ from if_pos ⟨by assumption, by assumption, by assumption, by assumption, by assumption, by assumption⟩] at h; exact h) | (rw [show tset M k row col v = M from if_neg (fun q => by obtain ⟨q1, q2, q3, q4, q5, q6⟩ := q; contradiction)] at h; exact h))
    · refine zj_iload2 (n := 23) rfl dX7_set_22 ?_
      refine zj_if_lt (n := 26) (tgt := 38) rfl dX7_set_23 (by decide) (fun c23 => ?_) (fun c23 => ?_)
      · refine zj_iconst_0 (n := 39) rfl dX7_set_38 ?_
        refine zj_istore5 (n := 41) rfl dX7_set_39 rfl (Nat.le_of_ble_eq_true rfl) ?_
        refine zj_iload5 (n := 43) rfl dX7_set_41 ?_
        refine zj_if_eq (n := 46) (tgt := 69) rfl dX7_set_43 (by decide) (fun _ => ?_) (fun h => absurd h (by decide))
        exact zj_return dX7_set_69 rfl (by first | (rw [show tset M k row col v = _ from if_pos ⟨by assumption, by assumption, by assumption, by assumption, by assumption, by assumption⟩] at h; exact h) | (rw [show tset M k row col v = M from if_neg (fun q => by obtain ⟨q1, q2, q3, q4, q5, q6⟩ := q; contradiction)] at h; exact h))
      · refine zj_iload2 (n := 27) rfl dX7_set_26 ?_
        refine zj_aload0 (n := 28) rfl dX7_set_27 ?_
        refine zj_geti (n := 31) rfl dX7_set_28 zf_X7_9 rfl hT.1 hT.2.1 ?_
        refine zj_icmp_ge (n := 34) (tgt := 38) rfl dX7_set_31 (by decide) (fun c31 => ?_) (fun c31 => ?_)
        · refine zj_iconst_0 (n := 39) rfl dX7_set_38 ?_
          refine zj_istore5 (n := 41) rfl dX7_set_39 rfl (Nat.le_of_ble_eq_true rfl) ?_
          refine zj_iload5 (n := 43) rfl dX7_set_41 ?_
          refine zj_if_eq (n := 46) (tgt := 69) rfl dX7_set_43 (by decide) (fun _ => ?_) (fun h => absurd h (by decide))
          exact zj_return dX7_set_69 rfl (by first | (rw [show tset M k row col v = _ from if_pos ⟨by assumption, by assumption, by assumption, by assumption, by assumption, by assumption⟩] at h; exact h) | (rw [show tset M k row col v = M from if_neg (fun q => by obtain ⟨q1, q2, q3, q4, q5, q6⟩ := q; contradiction)] at h; exact h))
        · refine zj_iconst_1 (n := 35) rfl dX7_set_34 ?_
          refine zj_goto (tgt := 39) dX7_set_35 (by decide) ?_
          refine zj_istore5 (n := 41) rfl dX7_set_39 rfl (Nat.le_of_ble_eq_true rfl) ?_
          refine zj_iload5 (n := 43) rfl dX7_set_41 ?_
          refine zj_if_eq (n := 46) (tgt := 69) rfl dX7_set_43 (by decide) (fun h => absurd h (by decide)) (fun _ => ?_)
          refine zj_iload4 (n := 48) rfl dX7_set_46 ?_
          refine zj_if_lt (n := 51) (tgt := 69) rfl dX7_set_48 (by decide) (fun c48 => ?_) (fun c48 => ?_)
          · exact zj_return dX7_set_69 rfl (by first | (rw [show tset M k row col v = _ from if_pos ⟨by assumption, by assumption, by assumption, by assumption, by assumption, by assumption⟩] at h; exact h) | (rw [show tset M k row col v = M from if_neg (fun q => by obtain ⟨q1, q2, q3, q4, q5, q6⟩ := q; contradiction)] at h; exact h))
          · refine zj_iload4 (n := 53) rfl dX7_set_51 ?_
            refine zj_aload0 (n := 54) rfl dX7_set_53 ?_
            refine zj_getr (n := 57) (q := k + 1) rfl dX7_set_54 zf_X7_21 rfl hT.1 hT.2.1 rfl ?_
            refine zj_arraylength (n := 58) (v := (Int32.ofNat (zLen (k + 1)))) rfl dX7_set_57 hT.2.2.1 (Or.inl hT.2.2.2) (by rw [if_neg (by rw [hT.2.2.2]; decide)]) ?_
            refine zj_icmp_ge (n := 61) (tgt := 69) rfl dX7_set_58 (by decide) (fun c58 => ?_) (fun c58 => ?_)
            · exact zj_return dX7_set_69 rfl (by first | (rw [show tset M k row col v = _ from if_pos ⟨by assumption, by assumption, by assumption, by assumption, by assumption, by assumption⟩] at h; exact h) | (rw [show tset M k row col v = M from if_neg (fun q => by obtain ⟨q1, q2, q3, q4, q5, q6⟩ := q; contradiction)] at h; exact h))
            · refine zj_aload0 (n := 62) rfl dX7_set_61 ?_
              refine zj_getr (n := 65) (q := k + 1) rfl dX7_set_62 zf_X7_21 rfl hT.1 hT.2.1 rfl ?_
              refine zj_iload4 (n := 67) rfl dX7_set_65 ?_
              refine zj_iload3 (n := 68) rfl dX7_set_67 ?_
              refine zj_iastore (n := 69) rfl dX7_set_68 hT.2.2.1 hT.2.2.2 (zin_len (by assumption) (by assumption)) ?_
              exact zj_return dX7_set_69 rfl (by first | (rw [show tset M k row col v = _ from if_pos ⟨by assumption, by assumption, by assumption, by assumption, by assumption, by assumption⟩] at h; exact h) | (rw [show tset M k row col v = M from if_neg (fun q => by obtain ⟨q1, q2, q3, q4, q5, q6⟩ := q; contradiction)] at h; exact h))
theorem jX7_increase {k : Nat} {row col v : Int32} {Q : Option Value → zM → Prop} {X : String → zM → Prop} {M : zM} (hT : zTb k) (h : Q none (tinc M k row col v)) : zJ yX7_increase cX7_increase 4 none rX7_increase Q X rX7_increase.cells rX7_increase.slots 0 (zEnt 4 [.ref k, .int row, .int col, .int v]) [] M := by
  show zJ yX7_increase cX7_increase 4 none rX7_increase Q X 0 0 0 [some (.ref k), some (.int row), some (.int col), some (.int v)] [] M
  refine zj_aload0 (n := 1) rfl dX7_increase_0 ?_
  refine zj_iload1 (n := 2) rfl dX7_increase_1 ?_
  refine zj_iload2 (n := 3) rfl dX7_increase_2 ?_
  refine zj_aload0 (n := 4) rfl dX7_increase_3 ?_
  refine zj_iload1 (n := 5) rfl dX7_increase_4 ?_
  refine zj_iload2 (n := 6) rfl dX7_increase_5 ?_
  refine zj_callV2 (n := 9) (a' := 0) (b' := 0) rfl dX7_increase_6 zm_X7_28 (by decide) hT.1 (by rw [hT.2.1]; rfl) (Nat.le_of_ble_eq_true rfl) (Nat.le_of_ble_eq_true rfl) (Nat.le_of_ble_eq_true rfl) (Nat.le_of_ble_eq_true rfl) (jX7_get hT ?_)
  refine zj_iload3 (n := 10) rfl dX7_increase_9 ?_
  refine zj_iadd (n := 11) rfl dX7_increase_10 ?_
  refine zj_callV3 (n := 14) (a' := 0) (b' := 0) rfl dX7_increase_11 zm_X7_31 (by decide) hT.1 (by rw [hT.2.1]; rfl) (Nat.le_of_ble_eq_true rfl) (Nat.le_of_ble_eq_true rfl) (Nat.le_of_ble_eq_true rfl) (Nat.le_of_ble_eq_true rfl) (jX7_set hT ?_)
  exact zj_return dX7_increase_14 rfl h
theorem jX7_holds {k : Nat} {row : Int32} {Q : Option Value → zM → Prop} {X : String → zM → Prop} {M : zM} (hT : zTb k) (h : Q (some (.int (if ¬ row < 0 ∧ ¬ M.1 k 2 ≤ row then 1 else 0))) M) : zJ yX7_holds cX7_holds 2 (some .boolean) rX7_holds Q X rX7_holds.cells rX7_holds.slots 0 (zEnt 2 [.ref k, .int row]) [] M := by
  show zJ yX7_holds cX7_holds 2 (some .boolean) rX7_holds Q X 0 0 0 [some (.ref k), some (.int row)] [] M
  refine zj_iload1 (n := 1) rfl dX7_holds_0 ?_
  refine zj_if_lt (n := 4) (tgt := 16) rfl dX7_holds_1 (by decide) (fun c1 => ?_) (fun c1 => ?_)
  · refine zj_iconst_0 (n := 17) rfl dX7_holds_16 ?_
    exact zj_ireturn dX7_holds_17 rfl rfl (zQi h (by first | exact if_pos ⟨by assumption, by assumption⟩ | exact if_neg (fun q => by obtain ⟨q1, q2⟩ := q; contradiction)))
  · refine zj_iload1 (n := 5) rfl dX7_holds_4 ?_
    refine zj_aload0 (n := 6) rfl dX7_holds_5 ?_
    refine zj_geti (n := 9) rfl dX7_holds_6 zf_X7_25 rfl hT.1 hT.2.1 ?_
    refine zj_icmp_ge (n := 12) (tgt := 16) rfl dX7_holds_9 (by decide) (fun c9 => ?_) (fun c9 => ?_)
    · refine zj_iconst_0 (n := 17) rfl dX7_holds_16 ?_
      exact zj_ireturn dX7_holds_17 rfl rfl (zQi h (by first | exact if_pos ⟨by assumption, by assumption⟩ | exact if_neg (fun q => by obtain ⟨q1, q2⟩ := q; contradiction)))
    · refine zj_iconst_1 (n := 13) rfl dX7_holds_12 ?_
      refine zj_goto (tgt := 17) dX7_holds_13 (by decide) ?_
      exact zj_ireturn dX7_holds_17 rfl rfl (zQi h (by first | exact if_pos ⟨by assumption, by assumption⟩ | exact if_neg (fun q => by obtain ⟨q1, q2⟩ := q; contradiction)))
theorem jX7_isFull {k : Nat} {Q : Option Value → zM → Prop} {X : String → zM → Prop} {M : zM} (hT : zTb k) (h : Q (some (.int (if ¬ (M.1 k 2 + 1) * M.1 k 0 ≤ Int32.ofNat (zLen (k + 1)) then 1 else 0))) M) : zJ yX7_isFull cX7_isFull 1 (some .boolean) rX7_isFull Q X rX7_isFull.cells rX7_isFull.slots 0 (zEnt 1 [.ref k]) [] M := by
  show zJ yX7_isFull cX7_isFull 1 (some .boolean) rX7_isFull Q X 0 0 0 [some (.ref k)] [] M
  refine zj_aload0 (n := 1) rfl dX7_isFull_0 ?_
  refine zj_geti (n := 4) rfl dX7_isFull_1 zf_X7_25 rfl hT.1 hT.2.1 ?_
  refine zj_iconst_1 (n := 5) rfl dX7_isFull_4 ?_
  refine zj_iadd (n := 6) rfl dX7_isFull_5 ?_
  refine zj_aload0 (n := 7) rfl dX7_isFull_6 ?_
  refine zj_geti (n := 10) rfl dX7_isFull_7 zf_X7_9 rfl hT.1 hT.2.1 ?_
  refine zj_imul (n := 11) rfl dX7_isFull_10 ?_
  refine zj_aload0 (n := 12) rfl dX7_isFull_11 ?_
  refine zj_getr (n := 15) (q := k + 1) rfl dX7_isFull_12 zf_X7_21 rfl hT.1 hT.2.1 rfl ?_
  refine zj_arraylength (n := 16) (v := (Int32.ofNat (zLen (k + 1)))) rfl dX7_isFull_15 hT.2.2.1 (Or.inl hT.2.2.2) (by rw [if_neg (by rw [hT.2.2.2]; decide)]) ?_
  refine zj_icmp_le (n := 19) (tgt := 23) rfl dX7_isFull_16 (by decide) (fun c16 => ?_) (fun c16 => ?_)
  · refine zj_iconst_0 (n := 24) rfl dX7_isFull_23 ?_
    exact zj_ireturn dX7_isFull_24 rfl rfl (zQi h (by first | exact if_pos (by assumption) | exact if_neg (fun q => by contradiction)))
  · refine zj_iconst_1 (n := 20) rfl dX7_isFull_19 ?_
    refine zj_goto (tgt := 24) dX7_isFull_20 (by decide) ?_
    exact zj_ireturn dX7_isFull_24 rfl rfl (zQi h (by first | exact if_pos (by assumption) | exact if_neg (fun q => by contradiction)))
theorem jX7_clear {k : Nat} {Q : Option Value → zM → Prop} {X : String → zM → Prop} {M : zM} (hT : zTb k) (h : Q none (zU M.1 k 2 0, M.2)) : zJ yX7_clear cX7_clear 1 none rX7_clear Q X rX7_clear.cells rX7_clear.slots 0 (zEnt 1 [.ref k]) [] M := by
  show zJ yX7_clear cX7_clear 1 none rX7_clear Q X 0 0 0 [some (.ref k)] [] M
  refine zj_aload0 (n := 1) rfl dX7_clear_0 ?_
  refine zj_iconst_0 (n := 2) rfl dX7_clear_1 ?_
  refine zj_puti (n := 5) rfl dX7_clear_2 zp_X7_25 rfl hT.1 hT.2.1 ?_
  exact zj_return dX7_clear_5 rfl h
