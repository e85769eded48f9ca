/-! THE REFERENCE, queries over groups -/
theorem jX10_hasShardOn {w : Nat} {v : zV} {g many n : Nat} {Q : Option Value → zM → Prop} {X : String → zM → Prop} {M : zM} (hA : zRA M w v) (hg : g < 10) (hm : many ≤ 16) (hh : ∀ s, s < many → hol v g s < 2 ^ 31) (hn : n < 2 ^ 31) (h : Q (some (.int (zb (vhas v g many n)))) M) : zJ yX10_hasShardOn cX10_hasShardOn 6 (some .boolean) rX10_hasShardOn Q X rX10_hasShardOn.cells rX10_hasShardOn.slots 0 (zEnt 6 [.ref 118, .int (nI g), .int (nI many), .int (nI n)]) [] M := by
  show zJ yX10_hasShardOn cX10_hasShardOn 6 (some .boolean) rX10_hasShardOn Q X 0 0 0 [some (.ref 118), some (.int (nI g)), some (.int (nI many)), some (.int (nI n)), none, none] [] M
  refine zj_iconst_0 (n := 1) rfl dX10_hasShardOn_0 ?_
  refine zj_istore4 (n := 3) rfl dX10_hasShardOn_1 rfl (Nat.le_of_ble_eq_true rfl) ?_
  refine zj_iconst_0 (n := 4) rfl dX10_hasShardOn_3 ?_
  refine zj_istore5 (n := 6) rfl dX10_hasShardOn_4 rfl (Nat.le_of_ble_eq_true rfl) ?_
  refine zFor_rule (P := fun i (s : Bool) => zJ yX10_hasShardOn cX10_hasShardOn 6 (some .boolean) rX10_hasShardOn Q X 0 0 6 [some (.ref 118), some (.int (nI g)), some (.int (nI many)), some (.int (nI n)), some (.int (zb s)), some (.int (nI i))] [] M) (n := many) (f := fun i s => s || hol v g i == n) (s0 := false) ?_ ?_
  · intro i s hi_i hk_i
    refine zj_iload5 (n := 8) rfl dX10_hasShardOn_6 ?_
    refine zj_iload2 (n := 9) rfl dX10_hasShardOn_8 ?_
    refine zj_icmp_ge (n := 12) (tgt := 41) rfl dX10_hasShardOn_9 (by decide) (fun c9 => absurd c9 (nI_ge hi_i (by omega))) (fun c9 => ?_)
    refine zj_iload4 (n := 14) rfl dX10_hasShardOn_12 ?_
    refine zj_if_ne (n := 17) (tgt := 28) rfl dX10_hasShardOn_14 (by decide) (fun c14 => ?_) (fun c14 => ?_)
    · refine zj_iconst_1 (n := 29) rfl dX10_hasShardOn_28 ?_
      refine zj_goto (tgt := 33) dX10_hasShardOn_29 (by decide) ?_
      refine zj_istore4 (n := 35) rfl dX10_hasShardOn_33 rfl (Nat.le_of_ble_eq_true rfl) ?_
      refine zj_iinc5 (n := 38) rfl dX10_hasShardOn_35 rfl (zi_1 _) (Nat.le_of_ble_eq_true rfl) ?_
      refine zj_goto (tgt := 6) dX10_hasShardOn_38 (by decide) ?_
      refine zj_sub (by simp only [zLe, eq_self, Value.int.injEq, and_true, true_and]; exact ⟨by simp only [zb_eq0, zb_ne0, nI_eq (hh i hi_i) hn] at *; simp [zb, *], (nI_1 i).symm⟩) hk_i
    · refine zj_aload0 (n := 18) rfl dX10_hasShardOn_17 ?_
      refine zj_iload1 (n := 19) rfl dX10_hasShardOn_18 ?_
      refine zj_iload5 (n := 21) rfl dX10_hasShardOn_19 ?_
      refine zj_callV2 (n := 24) (a' := 0) (b' := 0) rfl dX10_hasShardOn_21 zm_X10_74 (by decide) (by decide) rfl (Nat.le_of_ble_eq_true rfl) (Nat.le_of_ble_eq_true rfl) (Nat.le_of_ble_eq_true rfl) (Nat.le_of_ble_eq_true rfl) (jX10_holder hA hg (by omega) ?_)
      refine zj_iload3 (n := 25) rfl dX10_hasShardOn_24 ?_
      refine zj_icmp_ne (n := 28) (tgt := 32) rfl dX10_hasShardOn_25 (by decide) (fun c25 => ?_) (fun c25 => ?_)
      · refine zj_iconst_0 (n := 33) rfl dX10_hasShardOn_32 ?_
        refine zj_istore4 (n := 35) rfl dX10_hasShardOn_33 rfl (Nat.le_of_ble_eq_true rfl) ?_
        refine zj_iinc5 (n := 38) rfl dX10_hasShardOn_35 rfl (zi_1 _) (Nat.le_of_ble_eq_true rfl) ?_
        refine zj_goto (tgt := 6) dX10_hasShardOn_38 (by decide) ?_
        refine zj_sub (by simp only [zLe, eq_self, Value.int.injEq, and_true, true_and]; exact ⟨by simp only [zb_eq0, zb_ne0, nI_eq (hh i hi_i) hn] at *; simp [zb, *], (nI_1 i).symm⟩) hk_i
      · refine zj_iconst_1 (n := 29) rfl dX10_hasShardOn_28 ?_
        refine zj_goto (tgt := 33) dX10_hasShardOn_29 (by decide) ?_
        refine zj_istore4 (n := 35) rfl dX10_hasShardOn_33 rfl (Nat.le_of_ble_eq_true rfl) ?_
        refine zj_iinc5 (n := 38) rfl dX10_hasShardOn_35 rfl (zi_1 _) (Nat.le_of_ble_eq_true rfl) ?_
        refine zj_goto (tgt := 6) dX10_hasShardOn_38 (by decide) ?_
        refine zj_sub (by simp only [zLe, eq_self, Value.int.injEq, and_true, true_and]; exact ⟨by simp only [zb_eq0, zb_ne0, nI_eq (hh i hi_i) hn] at *; simp [zb, *], (nI_1 i).symm⟩) hk_i
  · skip
    refine zj_iload5 (n := 8) rfl dX10_hasShardOn_6 ?_
    refine zj_iload2 (n := 9) rfl dX10_hasShardOn_8 ?_
    refine zj_icmp_ge (n := 12) (tgt := 41) rfl dX10_hasShardOn_9 (by decide) (fun c9 => ?_) (fun c9 => absurd c9 (fun q => q (nI_le (Nat.le_refl _) (by omega))))
    refine zj_iload4 (n := 43) rfl dX10_hasShardOn_41 ?_
    exact zj_ireturn dX10_hasShardOn_43 rfl (zb_nar _) h
theorem jX10_shardsOn {w : Nat} {v : zV} {n more few : Nat} {Q : Option Value → zM → Prop} {X : String → zM → Prop} {M : zM} (hA : zRA M w v) (h8 : v 8 ≤ 10) (hsh : ∀ g, g < v 8 → vsh v g ≤ 10) (hh : ∀ g s, g < v 8 → s < vsh v g → hol v g s < 2 ^ 31) (hmo : more < 10) (hfe : few ≤ 10) (hh2 : ∀ s, s < few → hol v more s < 2 ^ 31) (hn : n < 2 ^ 31) (h : Q (some (.int (nI (zFor few (fun s a => if hol v more s = n then a + 1 else a) (vcnt v (v 8) n))))) M) : zJ yX10_shardsOn cX10_shardsOn 7 (some .int) rX10_shardsOn Q X rX10_shardsOn.cells rX10_shardsOn.slots 0 (zEnt 7 [.ref 118, .int (nI n), .int (nI more), .int (nI few)]) [] M := by
  show zJ yX10_shardsOn cX10_shardsOn 7 (some .int) rX10_shardsOn Q X 0 0 0 [some (.ref 118), some (.int (nI n)), some (.int (nI more)), some (.int (nI few)), none, none, none] [] M
  refine zj_iconst_0 (n := 1) rfl dX10_shardsOn_0 ?_
  refine zj_istore4 (n := 3) rfl dX10_shardsOn_1 rfl (Nat.le_of_ble_eq_true rfl) ?_
  refine zj_iconst_0 (n := 4) rfl dX10_shardsOn_3 ?_
  refine zj_istore5 (n := 6) rfl dX10_shardsOn_4 rfl (Nat.le_of_ble_eq_true rfl) ?_
  refine zFor_rule (P := fun i (s : Nat) => zJ yX10_shardsOn cX10_shardsOn 7 (some .int) rX10_shardsOn Q X 0 0 6 [some (.ref 118), some (.int (nI n)), some (.int (nI more)), some (.int (nI few)), some (.int (nI s)), some (.int (nI i)), none] [] M) (n := v 8) (f := fun g a => zFor (vsh v g) (fun s a => if hol v g s = n then a + 1 else a) a) (s0 := 0) ?_ ?_
  · intro i s hi_i hk_i
    refine zj_iload5 (n := 8) rfl dX10_shardsOn_6 ?_
    refine zj_aload0 (n := 9) rfl dX10_shardsOn_8 ?_
    refine zj_getr (n := 12) (q := w) rfl dX10_shardsOn_9 zf_X10_24 rfl (by decide) (by decide) hA.now ?_
    refine zj_bipush (v := 8) (n := 14) rfl dX10_shardsOn_12 (by decide) ?_
    refine zj_iaload (n := 15) rfl dX10_shardsOn_14 hA.2.1.lt hA.2.1.ty (hA.in (j := 8) rfl (by decide)) ?_
    refine zj_icmp_ge (n := 18) (tgt := 66) rfl dX10_shardsOn_15 (by decide) (fun c15 => absurd c15 (by rw [hA.at (x := 8) (j := 8) rfl (by decide)]; exact nI_ge hi_i (by omega))) (fun c15 => ?_)
    refine zj_iconst_0 (n := 19) rfl dX10_shardsOn_18 ?_
    refine zj_istore6 (n := 21) rfl dX10_shardsOn_19 rfl (Nat.le_of_ble_eq_true rfl) ?_
    refine zFor_rule (P := fun i2 (s2 : Nat) => zJ yX10_shardsOn cX10_shardsOn 7 (some .int) rX10_shardsOn Q X 0 0 21 [some (.ref 118), some (.int (nI n)), some (.int (nI more)), some (.int (nI few)), some (.int (nI s2)), some (.int (nI i)), some (.int (nI i2))] [] M) (n := vsh v i) (f := fun s a => if hol v i s = n then a + 1 else a) (s0 := s) ?_ ?_
    · intro i2 s2 hi_i2 hk_i2
      refine zj_iload6 (n := 23) rfl dX10_shardsOn_21 ?_
      refine zj_aload0 (n := 24) rfl dX10_shardsOn_23 ?_
      refine zj_iload5 (n := 26) rfl dX10_shardsOn_24 ?_
      refine zj_callV1 (n := 29) (a' := 0) (b' := 0) rfl dX10_shardsOn_26 zm_X10_70 (by decide) (by decide) rfl (Nat.le_of_ble_eq_true rfl) (Nat.le_of_ble_eq_true rfl) (Nat.le_of_ble_eq_true rfl) (Nat.le_of_ble_eq_true rfl) (jX10_shardsOf hA (by omega) ?_)
      refine zj_icmp_ge (n := 32) (tgt := 60) rfl dX10_shardsOn_29 (by decide) (fun c29 => absurd c29 (nI_ge hi_i2 (by have := hsh i hi_i; omega))) (fun c29 => ?_)
      refine zj_iload4 (n := 34) rfl dX10_shardsOn_32 ?_
      refine zj_aload0 (n := 35) rfl dX10_shardsOn_34 ?_
      refine zj_iload5 (n := 37) rfl dX10_shardsOn_35 ?_
      refine zj_iload6 (n := 39) rfl dX10_shardsOn_37 ?_
      refine zj_callV2 (n := 42) (a' := 0) (b' := 0) rfl dX10_shardsOn_39 zm_X10_74 (by decide) (by decide) rfl (Nat.le_of_ble_eq_true rfl) (Nat.le_of_ble_eq_true rfl) (Nat.le_of_ble_eq_true rfl) (Nat.le_of_ble_eq_true rfl) (jX10_holder hA (by omega) (by have := hsh i hi_i; omega) ?_)
      refine zj_iload1 (n := 43) rfl dX10_shardsOn_42 ?_
      refine zj_icmp_ne (n := 46) (tgt := 50) rfl dX10_shardsOn_43 (by decide) (fun c43 => ?_) (fun c43 => ?_)
      · refine zj_iconst_0 (n := 51) rfl dX10_shardsOn_50 ?_
        refine zj_iadd (n := 52) rfl dX10_shardsOn_51 ?_
        refine zj_istore4 (n := 54) rfl dX10_shardsOn_52 rfl (Nat.le_of_ble_eq_true rfl) ?_
        refine zj_iinc6 (n := 57) rfl dX10_shardsOn_54 rfl (zi_1 _) (Nat.le_of_ble_eq_true rfl) ?_
        refine zj_goto (tgt := 21) dX10_shardsOn_57 (by decide) ?_
        refine zj_sub (by simp only [zLe, eq_self, Value.int.injEq, and_true, true_and]; exact ⟨by simp only [nI_eq (hh i i2 hi_i hi_i2) hn] at *; simp [nI_1, *], (nI_1 i2).symm⟩) hk_i2
      · refine zj_iconst_1 (n := 47) rfl dX10_shardsOn_46 ?_
        refine zj_goto (tgt := 51) dX10_shardsOn_47 (by decide) ?_
        refine zj_iadd (n := 52) rfl dX10_shardsOn_51 ?_
        refine zj_istore4 (n := 54) rfl dX10_shardsOn_52 rfl (Nat.le_of_ble_eq_true rfl) ?_
        refine zj_iinc6 (n := 57) rfl dX10_shardsOn_54 rfl (zi_1 _) (Nat.le_of_ble_eq_true rfl) ?_
        refine zj_goto (tgt := 21) dX10_shardsOn_57 (by decide) ?_
        refine zj_sub (by simp only [zLe, eq_self, Value.int.injEq, and_true, true_and]; exact ⟨by simp only [nI_eq (hh i i2 hi_i hi_i2) hn] at *; simp [nI_1, *], (nI_1 i2).symm⟩) hk_i2
    · skip
      refine zj_iload6 (n := 23) rfl dX10_shardsOn_21 ?_
      refine zj_aload0 (n := 24) rfl dX10_shardsOn_23 ?_
      refine zj_iload5 (n := 26) rfl dX10_shardsOn_24 ?_
      refine zj_callV1 (n := 29) (a' := 0) (b' := 0) rfl dX10_shardsOn_26 zm_X10_70 (by decide) (by decide) rfl (Nat.le_of_ble_eq_true rfl) (Nat.le_of_ble_eq_true rfl) (Nat.le_of_ble_eq_true rfl) (Nat.le_of_ble_eq_true rfl) (jX10_shardsOf hA (by omega) ?_)
      refine zj_icmp_ge (n := 32) (tgt := 60) rfl dX10_shardsOn_29 (by decide) (fun c29 => ?_) (fun c29 => absurd c29 (fun q => q (nI_le (Nat.le_refl _) (by have := hsh i hi_i; omega))))
      refine zj_iinc5 (n := 63) rfl dX10_shardsOn_60 rfl (zi_1 _) (Nat.le_of_ble_eq_true rfl) ?_
      refine zj_goto (tgt := 6) dX10_shardsOn_63 (by decide) ?_
      refine zj_sub (by simp only [zLe, eq_self, Value.int.injEq, and_true, true_and]; exact (nI_1 i).symm) hk_i
  · skip
    refine zj_iload5 (n := 8) rfl dX10_shardsOn_6 ?_
    refine zj_aload0 (n := 9) rfl dX10_shardsOn_8 ?_
    refine zj_getr (n := 12) (q := w) rfl dX10_shardsOn_9 zf_X10_24 rfl (by decide) (by decide) hA.now ?_
    refine zj_bipush (v := 8) (n := 14) rfl dX10_shardsOn_12 (by decide) ?_
    refine zj_iaload (n := 15) rfl dX10_shardsOn_14 hA.2.1.lt hA.2.1.ty (hA.in (j := 8) rfl (by decide)) ?_
    refine zj_icmp_ge (n := 18) (tgt := 66) rfl dX10_shardsOn_15 (by decide) (fun c15 => ?_) (fun c15 => absurd c15 (fun q => q (by rw [hA.at (x := 8) (j := 8) rfl (by decide)]; exact nI_le (Nat.le_refl _) (by omega))))
    refine zj_iconst_0 (n := 67) rfl dX10_shardsOn_66 ?_
    refine zj_istore5 (n := 69) rfl dX10_shardsOn_67 rfl (Nat.le_of_ble_eq_true rfl) ?_
    refine zFor_rule (P := fun i3 (s3 : Nat) => zJ yX10_shardsOn cX10_shardsOn 7 (some .int) rX10_shardsOn Q X 0 0 69 [some (.ref 118), some (.int (nI n)), some (.int (nI more)), some (.int (nI few)), some (.int (nI s3)), some (.int (nI i3)), none] [] M) (n := few) (f := fun s a => if hol v more s = n then a + 1 else a) (s0 := vcnt v (v 8) n) ?_ ?_
    · intro i3 s3 hi_i3 hk_i3
      refine zj_iload5 (n := 71) rfl dX10_shardsOn_69 ?_
      refine zj_iload3 (n := 72) rfl dX10_shardsOn_71 ?_
      refine zj_icmp_ge (n := 75) (tgt := 102) rfl dX10_shardsOn_72 (by decide) (fun c72 => absurd c72 (nI_ge hi_i3 (by omega))) (fun c72 => ?_)
      refine zj_iload4 (n := 77) rfl dX10_shardsOn_75 ?_
      refine zj_aload0 (n := 78) rfl dX10_shardsOn_77 ?_
      refine zj_iload2 (n := 79) rfl dX10_shardsOn_78 ?_
      refine zj_iload5 (n := 81) rfl dX10_shardsOn_79 ?_
      refine zj_callV2 (n := 84) (a' := 0) (b' := 0) rfl dX10_shardsOn_81 zm_X10_74 (by decide) (by decide) rfl (Nat.le_of_ble_eq_true rfl) (Nat.le_of_ble_eq_true rfl) (Nat.le_of_ble_eq_true rfl) (Nat.le_of_ble_eq_true rfl) (jX10_holder hA hmo (by omega) ?_)
      refine zj_iload1 (n := 85) rfl dX10_shardsOn_84 ?_
      refine zj_icmp_ne (n := 88) (tgt := 92) rfl dX10_shardsOn_85 (by decide) (fun c85 => ?_) (fun c85 => ?_)
      · refine zj_iconst_0 (n := 93) rfl dX10_shardsOn_92 ?_
        refine zj_iadd (n := 94) rfl dX10_shardsOn_93 ?_
        refine zj_istore4 (n := 96) rfl dX10_shardsOn_94 rfl (Nat.le_of_ble_eq_true rfl) ?_
        refine zj_iinc5 (n := 99) rfl dX10_shardsOn_96 rfl (zi_1 _) (Nat.le_of_ble_eq_true rfl) ?_
        refine zj_goto (tgt := 69) dX10_shardsOn_99 (by decide) ?_
        refine zj_sub (by simp only [zLe, eq_self, Value.int.injEq, and_true, true_and]; exact ⟨by simp only [nI_eq (hh2 i3 hi_i3) hn] at *; simp [nI_1, *], (nI_1 i3).symm⟩) hk_i3
      · refine zj_iconst_1 (n := 89) rfl dX10_shardsOn_88 ?_
        refine zj_goto (tgt := 93) dX10_shardsOn_89 (by decide) ?_
        refine zj_iadd (n := 94) rfl dX10_shardsOn_93 ?_
        refine zj_istore4 (n := 96) rfl dX10_shardsOn_94 rfl (Nat.le_of_ble_eq_true rfl) ?_
        refine zj_iinc5 (n := 99) rfl dX10_shardsOn_96 rfl (zi_1 _) (Nat.le_of_ble_eq_true rfl) ?_
        refine zj_goto (tgt := 69) dX10_shardsOn_99 (by decide) ?_
        refine zj_sub (by simp only [zLe, eq_self, Value.int.injEq, and_true, true_and]; exact ⟨by simp only [nI_eq (hh2 i3 hi_i3) hn] at *; simp [nI_1, *], (nI_1 i3).symm⟩) hk_i3
    · skip
      refine zj_iload5 (n := 71) rfl dX10_shardsOn_69 ?_
      refine zj_iload3 (n := 72) rfl dX10_shardsOn_71 ?_
      refine zj_icmp_ge (n := 75) (tgt := 102) rfl dX10_shardsOn_72 (by decide) (fun c72 => ?_) (fun c72 => absurd c72 (fun q => q (nI_le (Nat.le_refl _) (by omega))))
      refine zj_iload4 (n := 104) rfl dX10_shardsOn_102 ?_
      exact zj_ireturn dX10_shardsOn_104 rfl rfl h
theorem jX10_isInZone {w : Nat} {v : zV} {g many zone : Nat} {but : Int32} {Q : Option Value → zM → Prop} {X : String → zM → Prop} {M : zM} (hA : zRA M w v) (hg : g < 10) (hm : many ≤ 16) (hh : ∀ s, s < many → hol v g s < 16) (hz : ∀ s, s < many → nd v (hol v g s) 1 < 2 ^ 31) (hzo : zone < 2 ^ 31) (h : Q (some (.int (zb (zAny many (fun s => !decide (nI s = but) && (nd v (hol v g s) 1 == zone)))))) M) : zJ yX10_isInZone cX10_isInZone 7 (some .boolean) rX10_isInZone Q X rX10_isInZone.cells rX10_isInZone.slots 0 (zEnt 7 [.ref 118, .int (nI g), .int (nI many), .int but, .int (nI zone)]) [] M := by
  show zJ yX10_isInZone cX10_isInZone 7 (some .boolean) rX10_isInZone Q X 0 0 0 [some (.ref 118), some (.int (nI g)), some (.int (nI many)), some (.int but), some (.int (nI zone)), none, none] [] M
  refine zj_iconst_0 (n := 1) rfl dX10_isInZone_0 ?_
  refine zj_istore5 (n := 3) rfl dX10_isInZone_1 rfl (Nat.le_of_ble_eq_true rfl) ?_
  refine zj_iconst_0 (n := 4) rfl dX10_isInZone_3 ?_
  refine zj_istore6 (n := 6) rfl dX10_isInZone_4 rfl (Nat.le_of_ble_eq_true rfl) ?_
  refine zFor_rule (P := fun i (s : Bool) => zJ yX10_isInZone cX10_isInZone 7 (some .boolean) rX10_isInZone Q X 0 0 6 [some (.ref 118), some (.int (nI g)), some (.int (nI many)), some (.int but), some (.int (nI zone)), some (.int (zb s)), some (.int (nI i))] [] M) (n := many) (f := fun i s => s || (!decide (nI i = but) && (nd v (hol v g i) 1 == zone))) (s0 := false) ?_ ?_
  · intro i s hi_i hk_i
    refine zj_iload6 (n := 8) rfl dX10_isInZone_6 ?_
    refine zj_iload2 (n := 9) rfl dX10_isInZone_8 ?_
    refine zj_icmp_ge (n := 12) (tgt := 53) rfl dX10_isInZone_9 (by decide) (fun c9 => absurd c9 (nI_ge hi_i (by omega))) (fun c9 => ?_)
    refine zj_iload5 (n := 14) rfl dX10_isInZone_12 ?_
    refine zj_if_ne (n := 17) (tgt := 40) rfl dX10_isInZone_14 (by decide) (fun c14 => ?_) (fun c14 => ?_)
    · refine zj_iconst_1 (n := 41) rfl dX10_isInZone_40 ?_
      refine zj_goto (tgt := 45) dX10_isInZone_41 (by decide) ?_
      refine zj_istore5 (n := 47) rfl dX10_isInZone_45 rfl (Nat.le_of_ble_eq_true rfl) ?_
      refine zj_iinc6 (n := 50) rfl dX10_isInZone_47 rfl (zi_1 _) (Nat.le_of_ble_eq_true rfl) ?_
      refine zj_goto (tgt := 6) dX10_isInZone_50 (by decide) ?_
      refine zj_sub (by simp only [zLe, eq_self, Value.int.injEq, and_true, true_and]; exact ⟨by simp only [zb_eq0, zb_ne0, nI_eq (hz i hi_i) hzo] at *; simp [zb, *], (nI_1 i).symm⟩) hk_i
    · refine zj_iload6 (n := 19) rfl dX10_isInZone_17 ?_
      refine zj_iload3 (n := 20) rfl dX10_isInZone_19 ?_
      refine zj_icmp_eq (n := 23) (tgt := 44) rfl dX10_isInZone_20 (by decide) (fun c20 => ?_) (fun c20 => ?_)
      · refine zj_iconst_0 (n := 45) rfl dX10_isInZone_44 ?_
        refine zj_istore5 (n := 47) rfl dX10_isInZone_45 rfl (Nat.le_of_ble_eq_true rfl) ?_
        refine zj_iinc6 (n := 50) rfl dX10_isInZone_47 rfl (zi_1 _) (Nat.le_of_ble_eq_true rfl) ?_
        refine zj_goto (tgt := 6) dX10_isInZone_50 (by decide) ?_
        refine zj_sub (by simp only [zLe, eq_self, Value.int.injEq, and_true, true_and]; exact ⟨by simp only [zb_eq0, zb_ne0, nI_eq (hz i hi_i) hzo] at *; simp [zb, *], (nI_1 i).symm⟩) hk_i
      · refine zj_aload0 (n := 24) rfl dX10_isInZone_23 ?_
        refine zj_aload0 (n := 25) rfl dX10_isInZone_24 ?_
        refine zj_iload1 (n := 26) rfl dX10_isInZone_25 ?_
        refine zj_iload6 (n := 28) rfl dX10_isInZone_26 ?_
        refine zj_callV2 (n := 31) (a' := 0) (b' := 0) rfl dX10_isInZone_28 zm_X10_74 (by decide) (by decide) rfl (Nat.le_of_ble_eq_true rfl) (Nat.le_of_ble_eq_true rfl) (Nat.le_of_ble_eq_true rfl) (Nat.le_of_ble_eq_true rfl) (jX10_holder hA hg (by omega) ?_)
        refine zj_iconst_1 (n := 32) rfl dX10_isInZone_31 ?_
        refine zj_callV2 (n := 35) (a' := 0) (b' := 0) rfl dX10_isInZone_32 zm_X10_77 (by decide) (by decide) rfl (Nat.le_of_ble_eq_true rfl) (Nat.le_of_ble_eq_true rfl) (Nat.le_of_ble_eq_true rfl) (Nat.le_of_ble_eq_true rfl) (jX10_nodeValue (c := 1) hA (by have := hh i hi_i; omega) ?_)
        refine zj_iload4 (n := 37) rfl dX10_isInZone_35 ?_
        refine zj_icmp_ne (n := 40) (tgt := 44) rfl dX10_isInZone_37 (by decide) (fun c37 => ?_) (fun c37 => ?_)
        · refine zj_iconst_0 (n := 45) rfl dX10_isInZone_44 ?_
          refine zj_istore5 (n := 47) rfl dX10_isInZone_45 rfl (Nat.le_of_ble_eq_true rfl) ?_
          refine zj_iinc6 (n := 50) rfl dX10_isInZone_47 rfl (zi_1 _) (Nat.le_of_ble_eq_true rfl) ?_
          refine zj_goto (tgt := 6) dX10_isInZone_50 (by decide) ?_
          refine zj_sub (by simp only [zLe, eq_self, Value.int.injEq, and_true, true_and]; exact ⟨by simp only [zb_eq0, zb_ne0, nI_eq (hz i hi_i) hzo] at *; simp [zb, *], (nI_1 i).symm⟩) hk_i
        · refine zj_iconst_1 (n := 41) rfl dX10_isInZone_40 ?_
          refine zj_goto (tgt := 45) dX10_isInZone_41 (by decide) ?_
          refine zj_istore5 (n := 47) rfl dX10_isInZone_45 rfl (Nat.le_of_ble_eq_true rfl) ?_
          refine zj_iinc6 (n := 50) rfl dX10_isInZone_47 rfl (zi_1 _) (Nat.le_of_ble_eq_true rfl) ?_
          refine zj_goto (tgt := 6) dX10_isInZone_50 (by decide) ?_
          refine zj_sub (by simp only [zLe, eq_self, Value.int.injEq, and_true, true_and]; exact ⟨by simp only [zb_eq0, zb_ne0, nI_eq (hz i hi_i) hzo] at *; simp [zb, *], (nI_1 i).symm⟩) hk_i
  · skip
    refine zj_iload6 (n := 8) rfl dX10_isInZone_6 ?_
    refine zj_iload2 (n := 9) rfl dX10_isInZone_8 ?_
    refine zj_icmp_ge (n := 12) (tgt := 53) rfl dX10_isInZone_9 (by decide) (fun c9 => ?_) (fun c9 => absurd c9 (fun q => q (nI_le (Nat.le_refl _) (by omega))))
    refine zj_iload5 (n := 55) rfl dX10_isInZone_53 ?_
    exact zj_ireturn dX10_isInZone_55 rfl (zb_nar _) h
theorem jX10_isAvailable {w : Nat} {v : zV} {g s d : Nat} {Q : Option Value → zM → Prop} {X : String → zM → Prop} {M : zM} (hA : zRA M w v) (hd : M.1 118 4 = nI d) (hd2 : d < 2 ^ 31) (hg : g < 10) (hs : s < 16) (hh : hol v g s < 16) (hst : nd v (hol v g s) 4 < 2 ^ 31) (h : Q (some (.int (zb (vav v d g s)))) M) : zJ yX10_isAvailable cX10_isAvailable 4 (some .boolean) rX10_isAvailable Q X rX10_isAvailable.cells rX10_isAvailable.slots 0 (zEnt 4 [.ref 118, .int (nI g), .int (nI s)]) [] M := by
  show zJ yX10_isAvailable cX10_isAvailable 4 (some .boolean) rX10_isAvailable Q X 0 0 0 [some (.ref 118), some (.int (nI g)), some (.int (nI s)), none] [] M
  refine zj_aload0 (n := 1) rfl dX10_isAvailable_0 ?_
  refine zj_iload1 (n := 2) rfl dX10_isAvailable_1 ?_
  refine zj_iload2 (n := 3) rfl dX10_isAvailable_2 ?_
  refine zj_callV2 (n := 6) (a' := 0) (b' := 0) rfl dX10_isAvailable_3 zm_X10_74 (by decide) (by decide) rfl (Nat.le_of_ble_eq_true rfl) (Nat.le_of_ble_eq_true rfl) (Nat.le_of_ble_eq_true rfl) (Nat.le_of_ble_eq_true rfl) (jX10_holder hA hg hs ?_)
  refine zj_istore3 (n := 7) rfl dX10_isAvailable_6 rfl (Nat.le_of_ble_eq_true rfl) ?_
  refine zj_aload0 (n := 8) rfl dX10_isAvailable_7 ?_
  refine zj_iload3 (n := 9) rfl dX10_isAvailable_8 ?_
  refine zj_iconst_4 (n := 10) rfl dX10_isAvailable_9 ?_
  refine zj_callV2 (n := 13) (a' := 0) (b' := 0) rfl dX10_isAvailable_10 zm_X10_77 (by decide) (by decide) rfl (Nat.le_of_ble_eq_true rfl) (Nat.le_of_ble_eq_true rfl) (Nat.le_of_ble_eq_true rfl) (Nat.le_of_ble_eq_true rfl) (jX10_nodeValue (c := 4) hA (by omega) ?_)
  refine zj_iconst_1 (n := 14) rfl dX10_isAvailable_13 ?_
  refine zj_icmp_eq (n := 17) (tgt := 32) rfl dX10_isAvailable_14 (by decide) (fun c14 => ?_) (fun c14 => ?_)
  · refine zj_iconst_0 (n := 33) rfl dX10_isAvailable_32 ?_
    exact zj_ireturn dX10_isAvailable_33 rfl rfl (zQi h (by simp only [zl, zb_eq0n, nI_eq hst (show 1 < 2 ^ 31 by decide)] at *; simp [vav, nI_zero, nI_one, zb_eq0, zb_eq1, *] at *; try simp [*]))
  · refine zj_aload0 (n := 18) rfl dX10_isAvailable_17 ?_
    refine zj_geti (n := 21) rfl dX10_isAvailable_18 zf_X10_99 rfl (by decide) (by decide) ?_
    refine zj_iload3 (n := 22) rfl dX10_isAvailable_21 ?_
    refine zj_eq rfl (st' := .int (nI (hol v g s)) :: .int (nI d) :: []) (by rw [← hd]) rfl ?_
    refine zj_callS2 (n := 25) (a' := 0) (b' := 0) rfl dX10_isAvailable_22 zm_X10_102 (by decide) (Nat.le_of_ble_eq_true rfl) (Nat.le_of_ble_eq_true rfl) (Nat.le_of_ble_eq_true rfl) (Nat.le_of_ble_eq_true rfl) (jX10_hasBit (d := d) hd2 (by omega) ?_)
    refine zj_if_ne (n := 28) (tgt := 32) rfl dX10_isAvailable_25 (by decide) (fun c25 => ?_) (fun c25 => ?_)
    · refine zj_iconst_0 (n := 33) rfl dX10_isAvailable_32 ?_
      exact zj_ireturn dX10_isAvailable_33 rfl rfl (zQi h (by simp only [zl, zb_eq0n, nI_eq hst (show 1 < 2 ^ 31 by decide)] at *; simp [vav, nI_zero, nI_one, zb_eq0, zb_eq1, *] at *; try simp [*]))
    · refine zj_iconst_1 (n := 29) rfl dX10_isAvailable_28 ?_
      refine zj_goto (tgt := 33) dX10_isAvailable_29 (by decide) ?_
      exact zj_ireturn dX10_isAvailable_33 rfl rfl (zQi h (by simp only [zl, zb_eq0n, nI_eq hst (show 1 < 2 ^ 31 by decide)] at *; simp [vav, nI_zero, nI_one, zb_eq0, zb_eq1, *] at *; try simp [*]))
theorem jX10_missingSet {w : Nat} {v : zV} {g d : Nat} {Q : Option Value → zM → Prop} {X : String → zM → Prop} {M : zM} (hA : zRA M w v) (hd : M.1 118 4 = nI d) (hd2 : d < 2 ^ 31) (hg : g < 10) (hsh : vsh v g ≤ 10) (hh : ∀ s, s < vsh v g → hol v g s < 16) (hst : ∀ s, s < vsh v g → nd v (hol v g s) 4 < 2 ^ 31) (h : Q (some (.int (nI (vmiss v d g)))) M) : zJ yX10_missingSet cX10_missingSet 4 (some .int) rX10_missingSet Q X rX10_missingSet.cells rX10_missingSet.slots 0 (zEnt 4 [.ref 118, .int (nI g)]) [] M := by
  show zJ yX10_missingSet cX10_missingSet 4 (some .int) rX10_missingSet Q X 0 0 0 [some (.ref 118), some (.int (nI g)), none, none] [] M
  refine zj_iconst_0 (n := 1) rfl dX10_missingSet_0 ?_
  refine zj_istore2 (n := 2) rfl dX10_missingSet_1 rfl (Nat.le_of_ble_eq_true rfl) ?_
  refine zj_iconst_0 (n := 3) rfl dX10_missingSet_2 ?_
  refine zj_istore3 (n := 4) rfl dX10_missingSet_3 rfl (Nat.le_of_ble_eq_true rfl) ?_
  refine zFor_rule (P := fun i (s : Unit) => zJ yX10_missingSet cX10_missingSet 4 (some .int) rX10_missingSet Q X 0 0 4 [some (.ref 118), some (.int (nI g)), some (.int (nI (zMask i (fun s => !vav v d g s)))), some (.int (nI i))] [] M) (n := vsh v g) (f := fun _ s => s) (s0 := ()) ?_ ?_
  · intro i s hi_i hk_i
    refine zj_iload3 (n := 5) rfl dX10_missingSet_4 ?_
    refine zj_aload0 (n := 6) rfl dX10_missingSet_5 ?_
    refine zj_iload1 (n := 7) rfl dX10_missingSet_6 ?_
    refine zj_callV1 (n := 10) (a' := 0) (b' := 0) rfl dX10_missingSet_7 zm_X10_70 (by decide) (by decide) rfl (Nat.le_of_ble_eq_true rfl) (Nat.le_of_ble_eq_true rfl) (Nat.le_of_ble_eq_true rfl) (Nat.le_of_ble_eq_true rfl) (jX10_shardsOf hA hg ?_)
    refine zj_icmp_ge (n := 13) (tgt := 38) rfl dX10_missingSet_10 (by decide) (fun c10 => absurd c10 (nI_ge hi_i (by omega))) (fun c10 => ?_)
    refine zj_iload2 (n := 14) rfl dX10_missingSet_13 ?_
    refine zj_aload0 (n := 15) rfl dX10_missingSet_14 ?_
    refine zj_iload1 (n := 16) rfl dX10_missingSet_15 ?_
    refine zj_iload3 (n := 17) rfl dX10_missingSet_16 ?_
    refine zj_callV2 (n := 20) (a' := 0) (b' := 0) rfl dX10_missingSet_17 zm_X10_106 (by decide) (by decide) rfl (Nat.le_of_ble_eq_true rfl) (Nat.le_of_ble_eq_true rfl) (Nat.le_of_ble_eq_true rfl) (Nat.le_of_ble_eq_true rfl) (jX10_isAvailable hA hd hd2 hg (by omega) (hh i hi_i) (hst i hi_i) ?_)
    refine zj_if_eq (n := 23) (tgt := 27) rfl dX10_missingSet_20 (by decide) (fun c20 => ?_) (fun c20 => ?_)
    · refine zj_iconst_1 (n := 28) rfl dX10_missingSet_27 ?_
      refine zj_iload3 (n := 29) rfl dX10_missingSet_28 ?_
      refine zj_ishl (n := 30) rfl dX10_missingSet_29 ?_
      refine zj_ior (n := 31) rfl dX10_missingSet_30 ?_
      refine zj_istore2 (n := 32) rfl dX10_missingSet_31 rfl (Nat.le_of_ble_eq_true rfl) ?_
      refine zj_iinc3 (n := 35) rfl dX10_missingSet_32 rfl (zi_1 _) (Nat.le_of_ble_eq_true rfl) ?_
      refine zj_goto (tgt := 4) dX10_missingSet_35 (by decide) ?_
      refine zj_sub (by simp only [zLe, eq_self, Value.int.injEq, and_true, true_and]; exact ⟨by rw [zMask_succ]; simp only [zb_eq0, zb_ne0] at *; first | (rw [zbit1 (by omega), zor (zMask_lt _ _) (by omega)]; simp [*]; done) | (simp [*, zor0]), (nI_1 i).symm⟩) hk_i
    · refine zj_iconst_0 (n := 24) rfl dX10_missingSet_23 ?_
      refine zj_goto (tgt := 30) dX10_missingSet_24 (by decide) ?_
      refine zj_ior (n := 31) rfl dX10_missingSet_30 ?_
      refine zj_istore2 (n := 32) rfl dX10_missingSet_31 rfl (Nat.le_of_ble_eq_true rfl) ?_
      refine zj_iinc3 (n := 35) rfl dX10_missingSet_32 rfl (zi_1 _) (Nat.le_of_ble_eq_true rfl) ?_
      refine zj_goto (tgt := 4) dX10_missingSet_35 (by decide) ?_
      refine zj_sub (by simp only [zLe, eq_self, Value.int.injEq, and_true, true_and]; exact ⟨by rw [zMask_succ]; simp only [zb_eq0, zb_ne0] at *; first | (rw [zbit1 (by omega), zor (zMask_lt _ _) (by omega)]; simp [*]; done) | (simp [*, zor0]), (nI_1 i).symm⟩) hk_i
  · skip
    refine zj_iload3 (n := 5) rfl dX10_missingSet_4 ?_
    refine zj_aload0 (n := 6) rfl dX10_missingSet_5 ?_
    refine zj_iload1 (n := 7) rfl dX10_missingSet_6 ?_
    refine zj_callV1 (n := 10) (a' := 0) (b' := 0) rfl dX10_missingSet_7 zm_X10_70 (by decide) (by decide) rfl (Nat.le_of_ble_eq_true rfl) (Nat.le_of_ble_eq_true rfl) (Nat.le_of_ble_eq_true rfl) (Nat.le_of_ble_eq_true rfl) (jX10_shardsOf hA hg ?_)
    refine zj_icmp_ge (n := 13) (tgt := 38) rfl dX10_missingSet_10 (by decide) (fun c10 => ?_) (fun c10 => absurd c10 (fun q => q (nI_le (Nat.le_refl _) (by omega))))
    refine zj_iload2 (n := 39) rfl dX10_missingSet_38 ?_
    exact zj_ireturn dX10_missingSet_39 rfl rfl h
theorem jX10_bitCount {m : Nat} {Q : Option Value → zM → Prop} {X : String → zM → Prop} {M : zM} (hm : m < 2 ^ 31) (h : Q (some (.int (nI (zCnt 16 (fun i => m.testBit i))))) M) : zJ yX10_bitCount cX10_bitCount 3 (some .int) rX10_bitCount Q X rX10_bitCount.cells rX10_bitCount.slots 0 (zEnt 3 [.int (nI m)]) [] M := by
  show zJ yX10_bitCount cX10_bitCount 3 (some .int) rX10_bitCount Q X 0 0 0 [some (.int (nI m)), none, none] [] M
  refine zj_iconst_0 (n := 1) rfl dX10_bitCount_0 ?_
  refine zj_istore1 (n := 2) rfl dX10_bitCount_1 rfl (Nat.le_of_ble_eq_true rfl) ?_
  refine zj_iconst_0 (n := 3) rfl dX10_bitCount_2 ?_
  refine zj_istore2 (n := 4) rfl dX10_bitCount_3 rfl (Nat.le_of_ble_eq_true rfl) ?_
  refine zFor_rule (P := fun i (s : Unit) => zJ yX10_bitCount cX10_bitCount 3 (some .int) rX10_bitCount Q X 0 0 4 [some (.int (nI m)), some (.int (nI (zCnt i (fun i => m.testBit i)))), some (.int (nI i))] [] M) (n := 16) (f := fun _ s => s) (s0 := ()) ?_ ?_
  · intro i s hi_i hk_i
    refine zj_iload2 (n := 5) rfl dX10_bitCount_4 ?_
    refine zj_bipush (v := 16) (n := 7) rfl dX10_bitCount_5 (by decide) ?_
    refine zj_icmp_ge (n := 10) (tgt := 24) rfl dX10_bitCount_7 (by decide) (fun c7 => absurd c7 (nI_ge hi_i (by decide))) (fun c7 => ?_)
    refine zj_iload1 (n := 11) rfl dX10_bitCount_10 ?_
    refine zj_iload0 (n := 12) rfl dX10_bitCount_11 ?_
    refine zj_iload2 (n := 13) rfl dX10_bitCount_12 ?_
    refine zj_ishr (n := 14) rfl dX10_bitCount_13 ?_
    refine zj_iconst_1 (n := 15) rfl dX10_bitCount_14 ?_
    refine zj_iand (n := 16) rfl dX10_bitCount_15 ?_
    refine zj_iadd (n := 17) rfl dX10_bitCount_16 ?_
    refine zj_istore1 (n := 18) rfl dX10_bitCount_17 rfl (Nat.le_of_ble_eq_true rfl) ?_
    refine zj_iinc2 (n := 21) rfl dX10_bitCount_18 rfl (zi_1 _) (Nat.le_of_ble_eq_true rfl) ?_
    refine zj_goto (tgt := 4) dX10_bitCount_21 (by decide) ?_
    refine zj_sub (by simp only [zLe, eq_self, Value.int.injEq, and_true, true_and]; exact ⟨by rw [zCnt_succ, zbit hm (by omega)]; cases m.testBit i <;> simp [zb, nI_1], (nI_1 i).symm⟩) hk_i
  · skip
    refine zj_iload2 (n := 5) rfl dX10_bitCount_4 ?_
    refine zj_bipush (v := 16) (n := 7) rfl dX10_bitCount_5 (by decide) ?_
    refine zj_icmp_ge (n := 10) (tgt := 24) rfl dX10_bitCount_7 (by decide) (fun c7 => ?_) (fun c7 => absurd c7 (by decide))
    refine zj_iload1 (n := 25) rfl dX10_bitCount_24 ?_
    exact zj_ireturn dX10_bitCount_25 rfl rfl h
theorem jX10_availableOf {w : Nat} {v : zV} {g d : Nat} {Q : Option Value → zM → Prop} {X : String → zM → Prop} {M : zM} (hA : zRA M w v) (hW : zWF v) (hd : M.1 118 4 = nI d) (hd2 : d < 2 ^ 16) (hg : g < v 8) (h : Q (some (.int (nI (vnav v d g)))) M) : zJ yX10_availableOf cX10_availableOf 2 (some .int) rX10_availableOf Q X rX10_availableOf.cells rX10_availableOf.slots 0 (zEnt 2 [.ref 118, .int (nI g)]) [] M := by
  obtain ⟨g10, gsh, ghol, gst, gzo⟩ := hW.gh hg
  have h231 : d < 2 ^ 31 := by omega
  show zJ yX10_availableOf cX10_availableOf 2 (some .int) rX10_availableOf Q X 0 0 0 [some (.ref 118), some (.int (nI g))] [] M
  refine zj_aload0 (n := 1) rfl dX10_availableOf_0 ?_
  refine zj_iload1 (n := 2) rfl dX10_availableOf_1 ?_
  refine zj_callV1 (n := 5) (a' := 0) (b' := 0) rfl dX10_availableOf_2 zm_X10_70 (by decide) (by decide) rfl (Nat.le_of_ble_eq_true rfl) (Nat.le_of_ble_eq_true rfl) (Nat.le_of_ble_eq_true rfl) (Nat.le_of_ble_eq_true rfl) (jX10_shardsOf hA g10 ?_)
  refine zj_aload0 (n := 6) rfl dX10_availableOf_5 ?_
  refine zj_iload1 (n := 7) rfl dX10_availableOf_6 ?_
  refine zj_callV1 (n := 10) (a' := 0) (b' := 0) rfl dX10_availableOf_7 zm_X10_109 (by decide) (by decide) rfl (Nat.le_of_ble_eq_true rfl) (Nat.le_of_ble_eq_true rfl) (Nat.le_of_ble_eq_true rfl) (Nat.le_of_ble_eq_true rfl) (jX10_missingSet hA hd h231 g10 gsh ghol gst ?_)
  refine zj_callS1 (n := 13) (a' := 0) (b' := 0) rfl dX10_availableOf_10 zm_X10_112 (by decide) (Nat.le_of_ble_eq_true rfl) (Nat.le_of_ble_eq_true rfl) (Nat.le_of_ble_eq_true rfl) (Nat.le_of_ble_eq_true rfl) (jX10_bitCount (Nat.lt_of_lt_of_le (zMask_lt _ _) (Nat.pow_le_pow_right (by decide) (by omega))) ?_)
  refine zj_isub (n := 14) rfl dX10_availableOf_13 ?_
  exact zj_ireturn dX10_availableOf_14 rfl rfl (zQi h (vnav_eq (by omega)).symm)
theorem jX10_isLost {w : Nat} {v : zV} {g d : Nat} {Q : Option Value → zM → Prop} {X : String → zM → Prop} {M : zM} (hA : zRA M w v) (hW : zWF v) (hd : M.1 118 4 = nI d) (hd2 : d < 2 ^ 16) (hg : g < v 8) (h : Q (some (.int (zb (vlost v d g)))) M) : zJ yX10_isLost cX10_isLost 2 (some .boolean) rX10_isLost Q X rX10_isLost.cells rX10_isLost.slots 0 (zEnt 2 [.ref 118, .int (nI g)]) [] M := by
  obtain ⟨g10, gsh, ghol, gst, gzo⟩ := hW.gh hg
  have h231 : d < 2 ^ 31 := by omega
  have hn1 : vnav v d g < 2 ^ 31 := by have := zCnt_le (vsh v g) (fun s => vav v d g s); unfold vnav; omega
  have hg2 : gp v g 2 < 2 ^ 31 := by have := hW.grp hg; omega
  show zJ yX10_isLost cX10_isLost 2 (some .boolean) rX10_isLost Q X 0 0 0 [some (.ref 118), some (.int (nI g))] [] M
  refine zj_aload0 (n := 1) rfl dX10_isLost_0 ?_
  refine zj_iload1 (n := 2) rfl dX10_isLost_1 ?_
  refine zj_callV1 (n := 5) (a' := 0) (b' := 0) rfl dX10_isLost_2 zm_X10_115 (by decide) (by decide) rfl (Nat.le_of_ble_eq_true rfl) (Nat.le_of_ble_eq_true rfl) (Nat.le_of_ble_eq_true rfl) (Nat.le_of_ble_eq_true rfl) (jX10_availableOf hA hW hd hd2 hg ?_)
  refine zj_aload0 (n := 6) rfl dX10_isLost_5 ?_
  refine zj_iload1 (n := 7) rfl dX10_isLost_6 ?_
  refine zj_iconst_2 (n := 8) rfl dX10_isLost_7 ?_
  refine zj_callV2 (n := 11) (a' := 0) (b' := 0) rfl dX10_isLost_8 zm_X10_66 (by decide) (by decide) rfl (Nat.le_of_ble_eq_true rfl) (Nat.le_of_ble_eq_true rfl) (Nat.le_of_ble_eq_true rfl) (Nat.le_of_ble_eq_true rfl) (jX10_groupValue (c := 2) hA (by omega) ?_)
  refine zj_icmp_ge (n := 14) (tgt := 18) rfl dX10_isLost_11 (by decide) (fun c11 => ?_) (fun c11 => ?_)
  · refine zj_iconst_0 (n := 19) rfl dX10_isLost_18 ?_
    exact zj_ireturn dX10_isLost_19 rfl rfl (zQi h (by simp only [nI_leI hg2 hn1] at *; unfold vlost; first | exact zb_dt (by omega) | exact zb_df (by omega)))
  · refine zj_iconst_1 (n := 15) rfl dX10_isLost_14 ?_
    refine zj_goto (tgt := 19) dX10_isLost_15 (by decide) ?_
    exact zj_ireturn dX10_isLost_19 rfl rfl (zQi h (by simp only [nI_leI hg2 hn1] at *; unfold vlost; first | exact zb_dt (by omega) | exact zb_df (by omega)))
theorem jX10_firstMissing {w : Nat} {v : zV} {g d : Nat} {Q : Option Value → zM → Prop} {X : String → zM → Prop} {M : zM} (hA : zRA M w v) (hW : zWF v) (hd : M.1 118 4 = nI d) (hd2 : d < 2 ^ 16) (hg : g < v 8) (h : Q (some (.int (if vdam v d g then nI (vfm v d g) else -1))) M) : zJ yX10_firstMissing cX10_firstMissing 3 (some .int) rX10_firstMissing Q X rX10_firstMissing.cells rX10_firstMissing.slots 0 (zEnt 3 [.ref 118, .int (nI g)]) [] M := by
  obtain ⟨g10, gsh, ghol, gst, gzo⟩ := hW.gh hg
  have h231 : d < 2 ^ 31 := by omega
  show zJ yX10_firstMissing cX10_firstMissing 3 (some .int) rX10_firstMissing Q X 0 0 0 [some (.ref 118), some (.int (nI g)), none] [] M
  refine zj_iconst_0 (n := 1) rfl dX10_firstMissing_0 ?_
  refine zj_istore2 (n := 2) rfl dX10_firstMissing_1 rfl (Nat.le_of_ble_eq_true rfl) ?_
  refine zFind_rule (P := fun i => zJ yX10_firstMissing cX10_firstMissing 3 (some .int) rX10_firstMissing Q X 0 0 2 [some (.ref 118), some (.int (nI g)), some (.int (nI i))] [] M) (n := vsh v g) (p := fun s => !vav v d g s) ?_ ?_
  · intro i hi_i hf_i hk_i
    refine zj_iload2 (n := 3) rfl dX10_firstMissing_2 ?_
    refine zj_aload0 (n := 4) rfl dX10_firstMissing_3 ?_
    refine zj_iload1 (n := 5) rfl dX10_firstMissing_4 ?_
    refine zj_callV1 (n := 8) (a' := 0) (b' := 0) rfl dX10_firstMissing_5 zm_X10_70 (by decide) (by decide) rfl (Nat.le_of_ble_eq_true rfl) (Nat.le_of_ble_eq_true rfl) (Nat.le_of_ble_eq_true rfl) (Nat.le_of_ble_eq_true rfl) (jX10_shardsOf hA g10 ?_)
    refine zj_icmp_ge (n := 11) (tgt := 26) rfl dX10_firstMissing_8 (by decide) (fun c8 => absurd c8 (nI_ge hi_i (by omega))) (fun c8 => ?_)
    refine zj_aload0 (n := 12) rfl dX10_firstMissing_11 ?_
    refine zj_iload1 (n := 13) rfl dX10_firstMissing_12 ?_
    refine zj_iload2 (n := 14) rfl dX10_firstMissing_13 ?_
    refine zj_callV2 (n := 17) (a' := 0) (b' := 0) rfl dX10_firstMissing_14 zm_X10_106 (by decide) (by decide) rfl (Nat.le_of_ble_eq_true rfl) (Nat.le_of_ble_eq_true rfl) (Nat.le_of_ble_eq_true rfl) (Nat.le_of_ble_eq_true rfl) (jX10_isAvailable hA hd h231 g10 (by omega) (ghol i hi_i) (gst i hi_i) ?_)
    refine zj_if_eq (n := 20) (tgt := 26) rfl dX10_firstMissing_17 (by decide) (fun c17 => ?_) (fun c17 => ?_)
    · refine zj_iload2 (n := 27) rfl dX10_firstMissing_26 ?_
      refine zj_aload0 (n := 28) rfl dX10_firstMissing_27 ?_
      refine zj_iload1 (n := 29) rfl dX10_firstMissing_28 ?_
      refine zj_callV1 (n := 32) (a' := 0) (b' := 0) rfl dX10_firstMissing_29 zm_X10_70 (by decide) (by decide) rfl (Nat.le_of_ble_eq_true rfl) (Nat.le_of_ble_eq_true rfl) (Nat.le_of_ble_eq_true rfl) (Nat.le_of_ble_eq_true rfl) (jX10_shardsOf hA g10 ?_)
      refine zj_icmp_ne (n := 35) (tgt := 39) rfl dX10_firstMissing_32 (by decide) (fun c32 => ?_) (fun c32 => absurd c32 (fun e => by have := (nI_eq (by omega) (by omega)).mp e; omega))
      refine zj_iload2 (n := 40) rfl dX10_firstMissing_39 ?_
      exact zj_ireturn dX10_firstMissing_40 rfl rfl (zQi h (by have e : vfm v d g = i := zFst_eq hi_i (by simp only [zb_eq0, zb_ne0] at *; simp [*]) hf_i; unfold vdam; rw [e]; simp [hi_i]))
    · refine zj_iinc2 (n := 23) rfl dX10_firstMissing_20 rfl (zi_1 _) (Nat.le_of_ble_eq_true rfl) ?_
      refine zj_goto (tgt := 2) dX10_firstMissing_23 (by decide) ?_
      refine zj_sub (by simp only [zLe, eq_self, Value.int.injEq, and_true, true_and]; exact (nI_1 i).symm) (hk_i (by simp only [zb_eq0, zb_ne0] at *; simp [*]))
  · intro hf_i
    refine zj_iload2 (n := 3) rfl dX10_firstMissing_2 ?_
    refine zj_aload0 (n := 4) rfl dX10_firstMissing_3 ?_
    refine zj_iload1 (n := 5) rfl dX10_firstMissing_4 ?_
    refine zj_callV1 (n := 8) (a' := 0) (b' := 0) rfl dX10_firstMissing_5 zm_X10_70 (by decide) (by decide) rfl (Nat.le_of_ble_eq_true rfl) (Nat.le_of_ble_eq_true rfl) (Nat.le_of_ble_eq_true rfl) (Nat.le_of_ble_eq_true rfl) (jX10_shardsOf hA g10 ?_)
    refine zj_icmp_ge (n := 11) (tgt := 26) rfl dX10_firstMissing_8 (by decide) (fun c8 => ?_) (fun c8 => absurd c8 (fun q => q (nI_le (Nat.le_refl _) (by omega))))
    refine zj_iload2 (n := 27) rfl dX10_firstMissing_26 ?_
    refine zj_aload0 (n := 28) rfl dX10_firstMissing_27 ?_
    refine zj_iload1 (n := 29) rfl dX10_firstMissing_28 ?_
    refine zj_callV1 (n := 32) (a' := 0) (b' := 0) rfl dX10_firstMissing_29 zm_X10_70 (by decide) (by decide) rfl (Nat.le_of_ble_eq_true rfl) (Nat.le_of_ble_eq_true rfl) (Nat.le_of_ble_eq_true rfl) (Nat.le_of_ble_eq_true rfl) (jX10_shardsOf hA g10 ?_)
    refine zj_icmp_ne (n := 35) (tgt := 39) rfl dX10_firstMissing_32 (by decide) (fun c32 => absurd c32 (fun q => q rfl)) (fun c32 => ?_)
    refine zj_iconst_m1 (n := 36) rfl dX10_firstMissing_35 ?_
    refine zj_goto (tgt := 40) dX10_firstMissing_36 (by decide) ?_
    exact zj_ireturn dX10_firstMissing_40 rfl rfl (zQi h (by have e : vfm v d g = vsh v g := zFst_none.mpr hf_i; unfold vdam; rw [e]; simp))
theorem jX10_isDamaged {w : Nat} {v : zV} {g d : Nat} {Q : Option Value → zM → Prop} {X : String → zM → Prop} {M : zM} (hA : zRA M w v) (hW : zWF v) (hd : M.1 118 4 = nI d) (hd2 : d < 2 ^ 16) (hg : g < v 8) (h : Q (some (.int (zb (vdam v d g)))) M) : zJ yX10_isDamaged cX10_isDamaged 2 (some .boolean) rX10_isDamaged Q X rX10_isDamaged.cells rX10_isDamaged.slots 0 (zEnt 2 [.ref 118, .int (nI g)]) [] M := by
  obtain ⟨g10, gsh, ghol, gst, gzo⟩ := hW.gh hg
  have h231 : d < 2 ^ 31 := by omega
  have hfm : vfm v d g < 2 ^ 31 := by have := zFst_le (vsh v g) (fun s => !vav v d g s); unfold vfm; omega
  show zJ yX10_isDamaged cX10_isDamaged 2 (some .boolean) rX10_isDamaged Q X 0 0 0 [some (.ref 118), some (.int (nI g))] [] M
  refine zj_aload0 (n := 1) rfl dX10_isDamaged_0 ?_
  refine zj_iload1 (n := 2) rfl dX10_isDamaged_1 ?_
  refine zj_callV1 (n := 5) (a' := 0) (b' := 0) rfl dX10_isDamaged_2 zm_X10_118 (by decide) (by decide) rfl (Nat.le_of_ble_eq_true rfl) (Nat.le_of_ble_eq_true rfl) (Nat.le_of_ble_eq_true rfl) (Nat.le_of_ble_eq_true rfl) (jX10_firstMissing hA hW hd hd2 hg ?_)
  refine zj_iconst_m1 (n := 6) rfl dX10_isDamaged_5 ?_
  refine zj_icmp_eq (n := 9) (tgt := 13) rfl dX10_isDamaged_6 (by decide) (fun c6 => ?_) (fun c6 => ?_)
  · refine zj_iconst_0 (n := 14) rfl dX10_isDamaged_13 ?_
    exact zj_ireturn dX10_isDamaged_14 rfl rfl (zQi h (by cases hq : vdam v d g <;> simp [hq, zb, nI_ne_m1 hfm] at *))
  · refine zj_iconst_1 (n := 10) rfl dX10_isDamaged_9 ?_
    refine zj_goto (tgt := 14) dX10_isDamaged_10 (by decide) ?_
    exact zj_ireturn dX10_isDamaged_14 rfl rfl (zQi h (by cases hq : vdam v d g <;> simp [hq, zb, nI_ne_m1 hfm] at *))
theorem jX10_lostSet {w : Nat} {v : zV} {d : Nat} {Q : Option Value → zM → Prop} {X : String → zM → Prop} {M : zM} (hA : zRA M w v) (hW : zWF v) (hd : M.1 118 4 = nI d) (hd2 : d < 2 ^ 16) (h : Q (some (.int (nI (zMask (v 8) (fun g => vlost v d g))))) M) : zJ yX10_lostSet cX10_lostSet 3 (some .int) rX10_lostSet Q X rX10_lostSet.cells rX10_lostSet.slots 0 (zEnt 3 [.ref 118]) [] M := by
  have h8 := hW.gN
  show zJ yX10_lostSet cX10_lostSet 3 (some .int) rX10_lostSet Q X 0 0 0 [some (.ref 118), none, none] [] M
  refine zj_iconst_0 (n := 1) rfl dX10_lostSet_0 ?_
  refine zj_istore1 (n := 2) rfl dX10_lostSet_1 rfl (Nat.le_of_ble_eq_true rfl) ?_
  refine zj_iconst_0 (n := 3) rfl dX10_lostSet_2 ?_
  refine zj_istore2 (n := 4) rfl dX10_lostSet_3 rfl (Nat.le_of_ble_eq_true rfl) ?_
  refine zFor_rule (P := fun i (s : Unit) => zJ yX10_lostSet cX10_lostSet 3 (some .int) rX10_lostSet Q X 0 0 4 [some (.ref 118), some (.int (nI (zMask i (fun g => vlost v d g)))), some (.int (nI i))] [] M) (n := v 8) (f := fun _ s => s) (s0 := ()) ?_ ?_
  · intro i s hi_i hk_i
    refine zj_iload2 (n := 5) rfl dX10_lostSet_4 ?_
    refine zj_aload0 (n := 6) rfl dX10_lostSet_5 ?_
    refine zj_getr (n := 9) (q := w) rfl dX10_lostSet_6 zf_X10_24 rfl (by decide) (by decide) hA.now ?_
    refine zj_bipush (v := 8) (n := 11) rfl dX10_lostSet_9 (by decide) ?_
    refine zj_iaload (n := 12) rfl dX10_lostSet_11 hA.2.1.lt hA.2.1.ty (hA.in (j := 8) rfl (by decide)) ?_
    refine zj_icmp_ge (n := 15) (tgt := 39) rfl dX10_lostSet_12 (by decide) (fun c12 => absurd c12 (by rw [hA.at (x := 8) (j := 8) rfl (by decide)]; exact nI_ge hi_i (by omega))) (fun c12 => ?_)
    refine zj_iload1 (n := 16) rfl dX10_lostSet_15 ?_
    refine zj_aload0 (n := 17) rfl dX10_lostSet_16 ?_
    refine zj_iload2 (n := 18) rfl dX10_lostSet_17 ?_
    refine zj_callV1 (n := 21) (a' := 0) (b' := 0) rfl dX10_lostSet_18 zm_X10_121 (by decide) (by decide) rfl (Nat.le_of_ble_eq_true rfl) (Nat.le_of_ble_eq_true rfl) (Nat.le_of_ble_eq_true rfl) (Nat.le_of_ble_eq_true rfl) (jX10_isLost hA hW hd hd2 hi_i ?_)
    refine zj_if_eq (n := 24) (tgt := 30) rfl dX10_lostSet_21 (by decide) (fun c21 => ?_) (fun c21 => ?_)
    · refine zj_iconst_0 (n := 31) rfl dX10_lostSet_30 ?_
      refine zj_ior (n := 32) rfl dX10_lostSet_31 ?_
      refine zj_istore1 (n := 33) rfl dX10_lostSet_32 rfl (Nat.le_of_ble_eq_true rfl) ?_
      refine zj_iinc2 (n := 36) rfl dX10_lostSet_33 rfl (zi_1 _) (Nat.le_of_ble_eq_true rfl) ?_
      refine zj_goto (tgt := 4) dX10_lostSet_36 (by decide) ?_
      refine zj_sub (by simp only [zLe, eq_self, Value.int.injEq, and_true, true_and]; exact ⟨by rw [zMask_succ]; simp only [zb_eq0, zb_ne0] at *; first | (rw [zbit1 (by omega), zor (zMask_lt _ _) (by omega)]; simp [*]; done) | (simp [*, zor0]), (nI_1 i).symm⟩) hk_i
    · refine zj_iconst_1 (n := 25) rfl dX10_lostSet_24 ?_
      refine zj_iload2 (n := 26) rfl dX10_lostSet_25 ?_
      refine zj_ishl (n := 27) rfl dX10_lostSet_26 ?_
      refine zj_goto (tgt := 31) dX10_lostSet_27 (by decide) ?_
      refine zj_ior (n := 32) rfl dX10_lostSet_31 ?_
      refine zj_istore1 (n := 33) rfl dX10_lostSet_32 rfl (Nat.le_of_ble_eq_true rfl) ?_
      refine zj_iinc2 (n := 36) rfl dX10_lostSet_33 rfl (zi_1 _) (Nat.le_of_ble_eq_true rfl) ?_
      refine zj_goto (tgt := 4) dX10_lostSet_36 (by decide) ?_
      refine zj_sub (by simp only [zLe, eq_self, Value.int.injEq, and_true, true_and]; exact ⟨by rw [zMask_succ]; simp only [zb_eq0, zb_ne0] at *; first | (rw [zbit1 (by omega), zor (zMask_lt _ _) (by omega)]; simp [*]; done) | (simp [*, zor0]), (nI_1 i).symm⟩) hk_i
  · skip
    refine zj_iload2 (n := 5) rfl dX10_lostSet_4 ?_
    refine zj_aload0 (n := 6) rfl dX10_lostSet_5 ?_
    refine zj_getr (n := 9) (q := w) rfl dX10_lostSet_6 zf_X10_24 rfl (by decide) (by decide) hA.now ?_
    refine zj_bipush (v := 8) (n := 11) rfl dX10_lostSet_9 (by decide) ?_
    refine zj_iaload (n := 12) rfl dX10_lostSet_11 hA.2.1.lt hA.2.1.ty (hA.in (j := 8) rfl (by decide)) ?_
    refine zj_icmp_ge (n := 15) (tgt := 39) rfl dX10_lostSet_12 (by decide) (fun c12 => ?_) (fun c12 => absurd c12 (fun q => q (by rw [hA.at (x := 8) (j := 8) rfl (by decide)]; exact nI_le (Nat.le_refl _) (by omega))))
    refine zj_iload1 (n := 40) rfl dX10_lostSet_39 ?_
    exact zj_ireturn dX10_lostSet_40 rfl rfl h
