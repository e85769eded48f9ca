/-! THE REFERENCE, placing -/
theorem vstepN_1a {v : zV} {p n : Nat} {s : Option Nat × Option Nat} (h : ¬ p ≤ nd v n 0) : (vstepN v p n s).1 = s.1 := by
  obtain ⟨x, z⟩ := s
  cases x <;> simp [vstepN, h]
theorem vstepN_1b {v : zV} {p n : Nat} {s : Option Nat × Option Nat} (h : p ≤ nd v n 0) (h2 : s.1 = none) : (vstepN v p n s).1 = some n := by
  obtain ⟨x, z⟩ := s
  cases h2
  simp [vstepN, h]
theorem vstepN_1c {v : zV} {p n b : Nat} {s : Option Nat × Option Nat} (h : p ≤ nd v n 0) (h2 : s.1 = some b) (h3 : nd v n 0 < nd v b 0) : (vstepN v p n s).1 = some n := by
  obtain ⟨x, z⟩ := s
  cases h2
  simp [vstepN, h, h3]
theorem vstepN_1d {v : zV} {p n b : Nat} {s : Option Nat × Option Nat} (h2 : s.1 = some b) (h3 : ¬ nd v n 0 < nd v b 0) : (vstepN v p n s).1 = s.1 := by
  obtain ⟨x, z⟩ := s
  cases h2
  simp [vstepN, h3]
theorem vstepN_2b {v : zV} {p n : Nat} {s : Option Nat × Option Nat} (h2 : s.2 = none) : (vstepN v p n s).2 = some n := by
  obtain ⟨x, z⟩ := s
  cases h2
  rfl
theorem vstepN_2c {v : zV} {p n b : Nat} {s : Option Nat × Option Nat} (h2 : s.2 = some b) (h3 : nd v n 0 < nd v b 0) : (vstepN v p n s).2 = some n := by
  obtain ⟨x, z⟩ := s
  cases h2
  simp [vstepN, h3]
theorem vstepN_2d {v : zV} {p n b : Nat} {s : Option Nat × Option Nat} (h2 : s.2 = some b) (h3 : ¬ nd v n 0 < nd v b 0) : (vstepN v p n s).2 = s.2 := by
  obtain ⟨x, z⟩ := s
  cases h2
  simp [vstepN, h3]
theorem vfrom_inv {v : zV} {p : Nat} : (∀ b, (zFor (v 6) (vstepN v p) (none, none)).1 = some b → b < v 6) ∧ ∀ b, (zFor (v 6) (vstepN v p) (none, none)).2 = some b → b < v 6 :=
  zFor_inv (P := fun i (s : Option Nat × Option Nat) => (∀ b, s.1 = some b → b < i) ∧ ∀ b, s.2 = some b → b < i) ⟨(fun b h => nomatch h), (fun b h => nomatch h)⟩ (fun i t _ ht => vstepN_lt ht.1 ht.2)
theorem vfrom_a {v : zV} {p : Nat} (h : ¬ zo (zFor (v 6) (vstepN v p) (none, none)).1 = -1) : vfrom v p = (zFor (v 6) (vstepN v p) (none, none)).1 := by
  obtain ⟨n, hn⟩ := zo_some h
  unfold vfrom
  simp only [hn]
theorem vfrom_b {v : zV} {p : Nat} (h6 : v 6 ≤ 16) (h : zo (zFor (v 6) (vstepN v p) (none, none)).1 = -1) : vfrom v p = (zFor (v 6) (vstepN v p) (none, none)).2 := by
  have e := (zo_none (fun n hn => by have := vfrom_inv.1 n hn; omega)).mp h
  unfold vfrom
  simp only [e]
theorem jX10_nodeAtOrBehind {w : Nat} {v : zV} {p : Nat} {Q : Option Value → zM → Prop} {X : String → zM → Prop} {M : zM} (hA : zRA M w v) (h6 : v 6 ≤ 16) (ha : ∀ n, n < v 6 → nd v n 0 < 2 ^ 31) (hp : p < 2 ^ 31) (h : Q (some (.int (zo (vfrom v p)))) M) : zJ yX10_nodeAtOrBehind cX10_nodeAtOrBehind 6 (some .int) rX10_nodeAtOrBehind Q X rX10_nodeAtOrBehind.cells rX10_nodeAtOrBehind.slots 0 (zEnt 6 [.ref 118, .int (nI p)]) [] M := by
  show zJ yX10_nodeAtOrBehind cX10_nodeAtOrBehind 6 (some .int) rX10_nodeAtOrBehind Q X 0 0 0 [some (.ref 118), some (.int (nI p)), none, none, none, none] [] M
  refine zj_iconst_m1 (n := 1) rfl dX10_nodeAtOrBehind_0 ?_
  refine zj_istore2 (n := 2) rfl dX10_nodeAtOrBehind_1 rfl (Nat.le_of_ble_eq_true rfl) ?_
  refine zj_iconst_m1 (n := 3) rfl dX10_nodeAtOrBehind_2 ?_
  refine zj_istore3 (n := 4) rfl dX10_nodeAtOrBehind_3 rfl (Nat.le_of_ble_eq_true rfl) ?_
  refine zj_iconst_0 (n := 5) rfl dX10_nodeAtOrBehind_4 ?_
  refine zj_istore4 (n := 7) rfl dX10_nodeAtOrBehind_5 rfl (Nat.le_of_ble_eq_true rfl) ?_
  refine zFor_rule (P := fun i (s : Option Nat × Option Nat) => ((∀ b, s.1 = some b → b < i) ∧ ∀ b, s.2 = some b → b < i) → zJ yX10_nodeAtOrBehind cX10_nodeAtOrBehind 6 (some .int) rX10_nodeAtOrBehind Q X 0 0 7 [some (.ref 118), some (.int (nI p)), some (.int (zo s.1)), some (.int (zo s.2)), some (.int (nI i)), none] [] M) (n := v 6) (f := vstepN v p) (s0 := (none, none)) ?_ ?_ ⟨(fun b h => nomatch h), (fun b h => nomatch h)⟩
  · intro i s hi_i hk_i hh_i
    refine zj_iload4 (n := 9) rfl dX10_nodeAtOrBehind_7 ?_
    refine zj_aload0 (n := 10) rfl dX10_nodeAtOrBehind_9 ?_
    refine zj_getr (n := 13) (q := w) rfl dX10_nodeAtOrBehind_10 zf_X10_24 rfl (by decide) (by decide) hA.now ?_
    refine zj_bipush (v := 6) (n := 15) rfl dX10_nodeAtOrBehind_13 (by decide) ?_
    refine zj_iaload (n := 16) rfl dX10_nodeAtOrBehind_15 hA.2.1.lt hA.2.1.ty (hA.in (j := 6) rfl (by decide)) ?_
    refine zj_icmp_ge (n := 19) (tgt := 78) rfl dX10_nodeAtOrBehind_16 (by decide) (fun c16 => absurd c16 (by rw [hA.at (x := 6) (j := 6) rfl (by decide)]; exact nI_ge hi_i (by omega))) (fun c16 => ?_)
    refine zj_aload0 (n := 20) rfl dX10_nodeAtOrBehind_19 ?_
    refine zj_iload4 (n := 22) rfl dX10_nodeAtOrBehind_20 ?_
    refine zj_iconst_0 (n := 23) rfl dX10_nodeAtOrBehind_22 ?_
    refine zj_callV2 (n := 26) (a' := 0) (b' := 0) rfl dX10_nodeAtOrBehind_23 zm_X10_77 (by decide) (by decide) rfl (Nat.le_of_ble_eq_true rfl) (Nat.le_of_ble_eq_true rfl) (Nat.le_of_ble_eq_true rfl) (Nat.le_of_ble_eq_true rfl) (jX10_nodeValue (c := 0) hA (by omega) ?_)
    refine zj_istore5 (n := 28) rfl dX10_nodeAtOrBehind_26 rfl (Nat.le_of_ble_eq_true rfl) ?_
    refine zj_iload3 (n := 29) rfl dX10_nodeAtOrBehind_28 ?_
    refine zj_iconst_m1 (n := 30) rfl dX10_nodeAtOrBehind_29 ?_
    refine zj_icmp_eq (n := 33) (tgt := 44) rfl dX10_nodeAtOrBehind_30 (by decide) (fun c30 => ?_) (fun c30 => ?_)
    · refine zj_iload4 (n := 46) rfl dX10_nodeAtOrBehind_44 ?_
      refine zj_istore3 (n := 47) rfl dX10_nodeAtOrBehind_46 rfl (Nat.le_of_ble_eq_true rfl) ?_
      refine zj_iload5 (n := 49) rfl dX10_nodeAtOrBehind_47 ?_
      refine zj_iload1 (n := 50) rfl dX10_nodeAtOrBehind_49 ?_
      refine zj_icmp_lt (n := 53) (tgt := 72) rfl dX10_nodeAtOrBehind_50 (by decide) (fun c50 => ?_) (fun c50 => ?_)
      · refine zj_iinc4 (n := 75) rfl dX10_nodeAtOrBehind_72 rfl (zi_1 _) (Nat.le_of_ble_eq_true rfl) ?_
        refine zj_goto (tgt := 7) dX10_nodeAtOrBehind_75 (by decide) ?_
        have hbn1 : ∀ n, s.1 = some n → n < 2 ^ 31 := fun n hn => by have := hh_i.1 n hn; omega
        have hbn2 : ∀ n, s.2 = some n → n < 2 ^ 31 := fun n hn => by have := hh_i.2 n hn; omega
        simp only [zo_none hbn1, zo_none hbn2, nI_ltI (ha i hi_i) hp] at *
        try simp only [nI_leI hbb1 (ha i hi_i)] at *
        try simp only [nI_leI hbb2 (ha i hi_i)] at *
        refine zj_sub (by simp only [zLe, eq_self, Value.int.injEq, and_true, true_and]; exact ⟨by first | (rw [vstepN_1a (by omega)]; done) | (rw [vstepN_1b (by omega) (by assumption)]; rfl) | (rw [vstepN_1c (by omega) (by assumption) (by omega)]; rfl) | (rw [vstepN_1d (by assumption) (by omega)]; done), by first | (rw [vstepN_2b (by assumption)]; rfl) | (rw [vstepN_2c (by assumption) (by omega)]; rfl) | (rw [vstepN_2d (by assumption) (by omega)]; done), (nI_1 i).symm⟩) (hk_i (vstepN_lt hh_i.1 hh_i.2))
      · refine zj_iload2 (n := 54) rfl dX10_nodeAtOrBehind_53 ?_
        refine zj_iconst_m1 (n := 55) rfl dX10_nodeAtOrBehind_54 ?_
        refine zj_icmp_eq (n := 58) (tgt := 69) rfl dX10_nodeAtOrBehind_55 (by decide) (fun c55 => ?_) (fun c55 => ?_)
        · refine zj_iload4 (n := 71) rfl dX10_nodeAtOrBehind_69 ?_
          refine zj_istore2 (n := 72) rfl dX10_nodeAtOrBehind_71 rfl (Nat.le_of_ble_eq_true rfl) ?_
          refine zj_iinc4 (n := 75) rfl dX10_nodeAtOrBehind_72 rfl (zi_1 _) (Nat.le_of_ble_eq_true rfl) ?_
          refine zj_goto (tgt := 7) dX10_nodeAtOrBehind_75 (by decide) ?_
          have hbn1 : ∀ n, s.1 = some n → n < 2 ^ 31 := fun n hn => by have := hh_i.1 n hn; omega
          have hbn2 : ∀ n, s.2 = some n → n < 2 ^ 31 := fun n hn => by have := hh_i.2 n hn; omega
          simp only [zo_none hbn1, zo_none hbn2, nI_ltI (ha i hi_i) hp] at *
          try simp only [nI_leI hbb1 (ha i hi_i)] at *
          try simp only [nI_leI hbb2 (ha i hi_i)] at *
          refine zj_sub (by simp only [zLe, eq_self, Value.int.injEq, and_true, true_and]; exact ⟨by first | (rw [vstepN_1a (by omega)]; done) | (rw [vstepN_1b (by omega) (by assumption)]; rfl) | (rw [vstepN_1c (by omega) (by assumption) (by omega)]; rfl) | (rw [vstepN_1d (by assumption) (by omega)]; done), by first | (rw [vstepN_2b (by assumption)]; rfl) | (rw [vstepN_2c (by assumption) (by omega)]; rfl) | (rw [vstepN_2d (by assumption) (by omega)]; done), (nI_1 i).symm⟩) (hk_i (vstepN_lt hh_i.1 hh_i.2))
        · refine zj_iload5 (n := 60) rfl dX10_nodeAtOrBehind_58 ?_
          refine zj_aload0 (n := 61) rfl dX10_nodeAtOrBehind_60 ?_
          refine zj_iload2 (n := 62) rfl dX10_nodeAtOrBehind_61 ?_
          refine zj_iconst_0 (n := 63) rfl dX10_nodeAtOrBehind_62 ?_
          obtain ⟨b1, eb1⟩ := zo_some c55
          have hb1_ := hh_i.1 b1 eb1
          have hbb1 := ha b1 (by omega)
          refine zj_eq rfl (st' := .int (nI 0) :: .int (nI b1) :: .ref 118 :: .int (nI (nd v i 0)) :: []) (by rw [eb1]; rfl) rfl ?_
          refine zj_callV2 (n := 66) (a' := 0) (b' := 0) rfl dX10_nodeAtOrBehind_63 zm_X10_77 (by decide) (by decide) rfl (Nat.le_of_ble_eq_true rfl) (Nat.le_of_ble_eq_true rfl) (Nat.le_of_ble_eq_true rfl) (Nat.le_of_ble_eq_true rfl) (jX10_nodeValue (n := b1) (c := 0) hA (by omega) ?_)
          refine zj_icmp_ge (n := 69) (tgt := 72) rfl dX10_nodeAtOrBehind_66 (by decide) (fun c66 => ?_) (fun c66 => ?_)
          · refine zj_iinc4 (n := 75) rfl dX10_nodeAtOrBehind_72 rfl (zi_1 _) (Nat.le_of_ble_eq_true rfl) ?_
            refine zj_goto (tgt := 7) dX10_nodeAtOrBehind_75 (by decide) ?_
            have hbn1 : ∀ n, s.1 = some n → n < 2 ^ 31 := fun n hn => by have := hh_i.1 n hn; omega
            have hbn2 : ∀ n, s.2 = some n → n < 2 ^ 31 := fun n hn => by have := hh_i.2 n hn; omega
            simp only [zo_none hbn1, zo_none hbn2, nI_ltI (ha i hi_i) hp] at *
            try simp only [nI_leI hbb1 (ha i hi_i)] at *
            try simp only [nI_leI hbb2 (ha i hi_i)] at *
            refine zj_sub (by simp only [zLe, eq_self, Value.int.injEq, and_true, true_and]; exact ⟨by first | (rw [vstepN_1a (by omega)]; done) | (rw [vstepN_1b (by omega) (by assumption)]; rfl) | (rw [vstepN_1c (by omega) (by assumption) (by omega)]; rfl) | (rw [vstepN_1d (by assumption) (by omega)]; done), by first | (rw [vstepN_2b (by assumption)]; rfl) | (rw [vstepN_2c (by assumption) (by omega)]; rfl) | (rw [vstepN_2d (by assumption) (by omega)]; done), (nI_1 i).symm⟩) (hk_i (vstepN_lt hh_i.1 hh_i.2))
          · refine zj_iload4 (n := 71) rfl dX10_nodeAtOrBehind_69 ?_
            refine zj_istore2 (n := 72) rfl dX10_nodeAtOrBehind_71 rfl (Nat.le_of_ble_eq_true rfl) ?_
            refine zj_iinc4 (n := 75) rfl dX10_nodeAtOrBehind_72 rfl (zi_1 _) (Nat.le_of_ble_eq_true rfl) ?_
            refine zj_goto (tgt := 7) dX10_nodeAtOrBehind_75 (by decide) ?_
            have hbn1 : ∀ n, s.1 = some n → n < 2 ^ 31 := fun n hn => by have := hh_i.1 n hn; omega
            have hbn2 : ∀ n, s.2 = some n → n < 2 ^ 31 := fun n hn => by have := hh_i.2 n hn; omega
            simp only [zo_none hbn1, zo_none hbn2, nI_ltI (ha i hi_i) hp] at *
            try simp only [nI_leI hbb1 (ha i hi_i)] at *
            try simp only [nI_leI hbb2 (ha i hi_i)] at *
            refine zj_sub (by simp only [zLe, eq_self, Value.int.injEq, and_true, true_and]; exact ⟨by first | (rw [vstepN_1a (by omega)]; done) | (rw [vstepN_1b (by omega) (by assumption)]; rfl) | (rw [vstepN_1c (by omega) (by assumption) (by omega)]; rfl) | (rw [vstepN_1d (by assumption) (by omega)]; done), by first | (rw [vstepN_2b (by assumption)]; rfl) | (rw [vstepN_2c (by assumption) (by omega)]; rfl) | (rw [vstepN_2d (by assumption) (by omega)]; done), (nI_1 i).symm⟩) (hk_i (vstepN_lt hh_i.1 hh_i.2))
    · refine zj_iload5 (n := 35) rfl dX10_nodeAtOrBehind_33 ?_
      refine zj_aload0 (n := 36) rfl dX10_nodeAtOrBehind_35 ?_
      refine zj_iload3 (n := 37) rfl dX10_nodeAtOrBehind_36 ?_
      refine zj_iconst_0 (n := 38) rfl dX10_nodeAtOrBehind_37 ?_
      obtain ⟨b2, eb2⟩ := zo_some c30
      have hb2_ := hh_i.2 b2 eb2
      have hbb2 := ha b2 (by omega)
      refine zj_eq rfl (st' := .int (nI 0) :: .int (nI b2) :: .ref 118 :: .int (nI (nd v i 0)) :: []) (by rw [eb2]; rfl) rfl ?_
      refine zj_callV2 (n := 41) (a' := 0) (b' := 0) rfl dX10_nodeAtOrBehind_38 zm_X10_77 (by decide) (by decide) rfl (Nat.le_of_ble_eq_true rfl) (Nat.le_of_ble_eq_true rfl) (Nat.le_of_ble_eq_true rfl) (Nat.le_of_ble_eq_true rfl) (jX10_nodeValue (n := b2) (c := 0) hA (by omega) ?_)
      refine zj_icmp_ge (n := 44) (tgt := 47) rfl dX10_nodeAtOrBehind_41 (by decide) (fun c41 => ?_) (fun c41 => ?_)
      · refine zj_iload5 (n := 49) rfl dX10_nodeAtOrBehind_47 ?_
        refine zj_iload1 (n := 50) rfl dX10_nodeAtOrBehind_49 ?_
        refine zj_icmp_lt (n := 53) (tgt := 72) rfl dX10_nodeAtOrBehind_50 (by decide) (fun c50 => ?_) (fun c50 => ?_)
        · refine zj_iinc4 (n := 75) rfl dX10_nodeAtOrBehind_72 rfl (zi_1 _) (Nat.le_of_ble_eq_true rfl) ?_
          refine zj_goto (tgt := 7) dX10_nodeAtOrBehind_75 (by decide) ?_
          have hbn1 : ∀ n, s.1 = some n → n < 2 ^ 31 := fun n hn => by have := hh_i.1 n hn; omega
          have hbn2 : ∀ n, s.2 = some n → n < 2 ^ 31 := fun n hn => by have := hh_i.2 n hn; omega
          simp only [zo_none hbn1, zo_none hbn2, nI_ltI (ha i hi_i) hp] at *
          try simp only [nI_leI hbb1 (ha i hi_i)] at *
          try simp only [nI_leI hbb2 (ha i hi_i)] at *
          refine zj_sub (by simp only [zLe, eq_self, Value.int.injEq, and_true, true_and]; exact ⟨by first | (rw [vstepN_1a (by omega)]; done) | (rw [vstepN_1b (by omega) (by assumption)]; rfl) | (rw [vstepN_1c (by omega) (by assumption) (by omega)]; rfl) | (rw [vstepN_1d (by assumption) (by omega)]; done), by first | (rw [vstepN_2b (by assumption)]; rfl) | (rw [vstepN_2c (by assumption) (by omega)]; rfl) | (rw [vstepN_2d (by assumption) (by omega)]; done), (nI_1 i).symm⟩) (hk_i (vstepN_lt hh_i.1 hh_i.2))
        · refine zj_iload2 (n := 54) rfl dX10_nodeAtOrBehind_53 ?_
          refine zj_iconst_m1 (n := 55) rfl dX10_nodeAtOrBehind_54 ?_
          refine zj_icmp_eq (n := 58) (tgt := 69) rfl dX10_nodeAtOrBehind_55 (by decide) (fun c55 => ?_) (fun c55 => ?_)
          · refine zj_iload4 (n := 71) rfl dX10_nodeAtOrBehind_69 ?_
            refine zj_istore2 (n := 72) rfl dX10_nodeAtOrBehind_71 rfl (Nat.le_of_ble_eq_true rfl) ?_
            refine zj_iinc4 (n := 75) rfl dX10_nodeAtOrBehind_72 rfl (zi_1 _) (Nat.le_of_ble_eq_true rfl) ?_
            refine zj_goto (tgt := 7) dX10_nodeAtOrBehind_75 (by decide) ?_
            have hbn1 : ∀ n, s.1 = some n → n < 2 ^ 31 := fun n hn => by have := hh_i.1 n hn; omega
            have hbn2 : ∀ n, s.2 = some n → n < 2 ^ 31 := fun n hn => by have := hh_i.2 n hn; omega
            simp only [zo_none hbn1, zo_none hbn2, nI_ltI (ha i hi_i) hp] at *
            try simp only [nI_leI hbb1 (ha i hi_i)] at *
            try simp only [nI_leI hbb2 (ha i hi_i)] at *
            refine zj_sub (by simp only [zLe, eq_self, Value.int.injEq, and_true, true_and]; exact ⟨by first | (rw [vstepN_1a (by omega)]; done) | (rw [vstepN_1b (by omega) (by assumption)]; rfl) | (rw [vstepN_1c (by omega) (by assumption) (by omega)]; rfl) | (rw [vstepN_1d (by assumption) (by omega)]; done), by first | (rw [vstepN_2b (by assumption)]; rfl) | (rw [vstepN_2c (by assumption) (by omega)]; rfl) | (rw [vstepN_2d (by assumption) (by omega)]; done), (nI_1 i).symm⟩) (hk_i (vstepN_lt hh_i.1 hh_i.2))
          · refine zj_iload5 (n := 60) rfl dX10_nodeAtOrBehind_58 ?_
            refine zj_aload0 (n := 61) rfl dX10_nodeAtOrBehind_60 ?_
            refine zj_iload2 (n := 62) rfl dX10_nodeAtOrBehind_61 ?_
            refine zj_iconst_0 (n := 63) rfl dX10_nodeAtOrBehind_62 ?_
            obtain ⟨b1, eb1⟩ := zo_some c55
            have hb1_ := hh_i.1 b1 eb1
            have hbb1 := ha b1 (by omega)
            refine zj_eq rfl (st' := .int (nI 0) :: .int (nI b1) :: .ref 118 :: .int (nI (nd v i 0)) :: []) (by rw [eb1]; rfl) rfl ?_
            refine zj_callV2 (n := 66) (a' := 0) (b' := 0) rfl dX10_nodeAtOrBehind_63 zm_X10_77 (by decide) (by decide) rfl (Nat.le_of_ble_eq_true rfl) (Nat.le_of_ble_eq_true rfl) (Nat.le_of_ble_eq_true rfl) (Nat.le_of_ble_eq_true rfl) (jX10_nodeValue (n := b1) (c := 0) hA (by omega) ?_)
            refine zj_icmp_ge (n := 69) (tgt := 72) rfl dX10_nodeAtOrBehind_66 (by decide) (fun c66 => ?_) (fun c66 => ?_)
            · refine zj_iinc4 (n := 75) rfl dX10_nodeAtOrBehind_72 rfl (zi_1 _) (Nat.le_of_ble_eq_true rfl) ?_
              refine zj_goto (tgt := 7) dX10_nodeAtOrBehind_75 (by decide) ?_
              have hbn1 : ∀ n, s.1 = some n → n < 2 ^ 31 := fun n hn => by have := hh_i.1 n hn; omega
              have hbn2 : ∀ n, s.2 = some n → n < 2 ^ 31 := fun n hn => by have := hh_i.2 n hn; omega
              simp only [zo_none hbn1, zo_none hbn2, nI_ltI (ha i hi_i) hp] at *
              try simp only [nI_leI hbb1 (ha i hi_i)] at *
              try simp only [nI_leI hbb2 (ha i hi_i)] at *
              refine zj_sub (by simp only [zLe, eq_self, Value.int.injEq, and_true, true_and]; exact ⟨by first | (rw [vstepN_1a (by omega)]; done) | (rw [vstepN_1b (by omega) (by assumption)]; rfl) | (rw [vstepN_1c (by omega) (by assumption) (by omega)]; rfl) | (rw [vstepN_1d (by assumption) (by omega)]; done), by first | (rw [vstepN_2b (by assumption)]; rfl) | (rw [vstepN_2c (by assumption) (by omega)]; rfl) | (rw [vstepN_2d (by assumption) (by omega)]; done), (nI_1 i).symm⟩) (hk_i (vstepN_lt hh_i.1 hh_i.2))
            · refine zj_iload4 (n := 71) rfl dX10_nodeAtOrBehind_69 ?_
              refine zj_istore2 (n := 72) rfl dX10_nodeAtOrBehind_71 rfl (Nat.le_of_ble_eq_true rfl) ?_
              refine zj_iinc4 (n := 75) rfl dX10_nodeAtOrBehind_72 rfl (zi_1 _) (Nat.le_of_ble_eq_true rfl) ?_
              refine zj_goto (tgt := 7) dX10_nodeAtOrBehind_75 (by decide) ?_
              have hbn1 : ∀ n, s.1 = some n → n < 2 ^ 31 := fun n hn => by have := hh_i.1 n hn; omega
              have hbn2 : ∀ n, s.2 = some n → n < 2 ^ 31 := fun n hn => by have := hh_i.2 n hn; omega
              simp only [zo_none hbn1, zo_none hbn2, nI_ltI (ha i hi_i) hp] at *
              try simp only [nI_leI hbb1 (ha i hi_i)] at *
              try simp only [nI_leI hbb2 (ha i hi_i)] at *
              refine zj_sub (by simp only [zLe, eq_self, Value.int.injEq, and_true, true_and]; exact ⟨by first | (rw [vstepN_1a (by omega)]; done) | (rw [vstepN_1b (by omega) (by assumption)]; rfl) | (rw [vstepN_1c (by omega) (by assumption) (by omega)]; rfl) | (rw [vstepN_1d (by assumption) (by omega)]; done), by first | (rw [vstepN_2b (by assumption)]; rfl) | (rw [vstepN_2c (by assumption) (by omega)]; rfl) | (rw [vstepN_2d (by assumption) (by omega)]; done), (nI_1 i).symm⟩) (hk_i (vstepN_lt hh_i.1 hh_i.2))
      · refine zj_iload4 (n := 46) rfl dX10_nodeAtOrBehind_44 ?_
        refine zj_istore3 (n := 47) rfl dX10_nodeAtOrBehind_46 rfl (Nat.le_of_ble_eq_true rfl) ?_
        refine zj_iload5 (n := 49) rfl dX10_nodeAtOrBehind_47 ?_
        refine zj_iload1 (n := 50) rfl dX10_nodeAtOrBehind_49 ?_
        refine zj_icmp_lt (n := 53) (tgt := 72) rfl dX10_nodeAtOrBehind_50 (by decide) (fun c50 => ?_) (fun c50 => ?_)
        · refine zj_iinc4 (n := 75) rfl dX10_nodeAtOrBehind_72 rfl (zi_1 _) (Nat.le_of_ble_eq_true rfl) ?_
          refine zj_goto (tgt := 7) dX10_nodeAtOrBehind_75 (by decide) ?_
          have hbn1 : ∀ n, s.1 = some n → n < 2 ^ 31 := fun n hn => by have := hh_i.1 n hn; omega
          have hbn2 : ∀ n, s.2 = some n → n < 2 ^ 31 := fun n hn => by have := hh_i.2 n hn; omega
          simp only [zo_none hbn1, zo_none hbn2, nI_ltI (ha i hi_i) hp] at *
          try simp only [nI_leI hbb1 (ha i hi_i)] at *
          try simp only [nI_leI hbb2 (ha i hi_i)] at *
          refine zj_sub (by simp only [zLe, eq_self, Value.int.injEq, and_true, true_and]; exact ⟨by first | (rw [vstepN_1a (by omega)]; done) | (rw [vstepN_1b (by omega) (by assumption)]; rfl) | (rw [vstepN_1c (by omega) (by assumption) (by omega)]; rfl) | (rw [vstepN_1d (by assumption) (by omega)]; done), by first | (rw [vstepN_2b (by assumption)]; rfl) | (rw [vstepN_2c (by assumption) (by omega)]; rfl) | (rw [vstepN_2d (by assumption) (by omega)]; done), (nI_1 i).symm⟩) (hk_i (vstepN_lt hh_i.1 hh_i.2))
        · refine zj_iload2 (n := 54) rfl dX10_nodeAtOrBehind_53 ?_
          refine zj_iconst_m1 (n := 55) rfl dX10_nodeAtOrBehind_54 ?_
          refine zj_icmp_eq (n := 58) (tgt := 69) rfl dX10_nodeAtOrBehind_55 (by decide) (fun c55 => ?_) (fun c55 => ?_)
          · refine zj_iload4 (n := 71) rfl dX10_nodeAtOrBehind_69 ?_
            refine zj_istore2 (n := 72) rfl dX10_nodeAtOrBehind_71 rfl (Nat.le_of_ble_eq_true rfl) ?_
            refine zj_iinc4 (n := 75) rfl dX10_nodeAtOrBehind_72 rfl (zi_1 _) (Nat.le_of_ble_eq_true rfl) ?_
            refine zj_goto (tgt := 7) dX10_nodeAtOrBehind_75 (by decide) ?_
            have hbn1 : ∀ n, s.1 = some n → n < 2 ^ 31 := fun n hn => by have := hh_i.1 n hn; omega
            have hbn2 : ∀ n, s.2 = some n → n < 2 ^ 31 := fun n hn => by have := hh_i.2 n hn; omega
            simp only [zo_none hbn1, zo_none hbn2, nI_ltI (ha i hi_i) hp] at *
            try simp only [nI_leI hbb1 (ha i hi_i)] at *
            try simp only [nI_leI hbb2 (ha i hi_i)] at *
            refine zj_sub (by simp only [zLe, eq_self, Value.int.injEq, and_true, true_and]; exact ⟨by first | (rw [vstepN_1a (by omega)]; done) | (rw [vstepN_1b (by omega) (by assumption)]; rfl) | (rw [vstepN_1c (by omega) (by assumption) (by omega)]; rfl) | (rw [vstepN_1d (by assumption) (by omega)]; done), by first | (rw [vstepN_2b (by assumption)]; rfl) | (rw [vstepN_2c (by assumption) (by omega)]; rfl) | (rw [vstepN_2d (by assumption) (by omega)]; done), (nI_1 i).symm⟩) (hk_i (vstepN_lt hh_i.1 hh_i.2))
          · refine zj_iload5 (n := 60) rfl dX10_nodeAtOrBehind_58 ?_
            refine zj_aload0 (n := 61) rfl dX10_nodeAtOrBehind_60 ?_
            refine zj_iload2 (n := 62) rfl dX10_nodeAtOrBehind_61 ?_
            refine zj_iconst_0 (n := 63) rfl dX10_nodeAtOrBehind_62 ?_
            obtain ⟨b1, eb1⟩ := zo_some c55
            have hb1_ := hh_i.1 b1 eb1
            have hbb1 := ha b1 (by omega)
            refine zj_eq rfl (st' := .int (nI 0) :: .int (nI b1) :: .ref 118 :: .int (nI (nd v i 0)) :: []) (by rw [eb1]; rfl) rfl ?_
            refine zj_callV2 (n := 66) (a' := 0) (b' := 0) rfl dX10_nodeAtOrBehind_63 zm_X10_77 (by decide) (by decide) rfl (Nat.le_of_ble_eq_true rfl) (Nat.le_of_ble_eq_true rfl) (Nat.le_of_ble_eq_true rfl) (Nat.le_of_ble_eq_true rfl) (jX10_nodeValue (n := b1) (c := 0) hA (by omega) ?_)
            refine zj_icmp_ge (n := 69) (tgt := 72) rfl dX10_nodeAtOrBehind_66 (by decide) (fun c66 => ?_) (fun c66 => ?_)
            · refine zj_iinc4 (n := 75) rfl dX10_nodeAtOrBehind_72 rfl (zi_1 _) (Nat.le_of_ble_eq_true rfl) ?_
              refine zj_goto (tgt := 7) dX10_nodeAtOrBehind_75 (by decide) ?_
              have hbn1 : ∀ n, s.1 = some n → n < 2 ^ 31 := fun n hn => by have := hh_i.1 n hn; omega
              have hbn2 : ∀ n, s.2 = some n → n < 2 ^ 31 := fun n hn => by have := hh_i.2 n hn; omega
              simp only [zo_none hbn1, zo_none hbn2, nI_ltI (ha i hi_i) hp] at *
              try simp only [nI_leI hbb1 (ha i hi_i)] at *
              try simp only [nI_leI hbb2 (ha i hi_i)] at *
              refine zj_sub (by simp only [zLe, eq_self, Value.int.injEq, and_true, true_and]; exact ⟨by first | (rw [vstepN_1a (by omega)]; done) | (rw [vstepN_1b (by omega) (by assumption)]; rfl) | (rw [vstepN_1c (by omega) (by assumption) (by omega)]; rfl) | (rw [vstepN_1d (by assumption) (by omega)]; done), by first | (rw [vstepN_2b (by assumption)]; rfl) | (rw [vstepN_2c (by assumption) (by omega)]; rfl) | (rw [vstepN_2d (by assumption) (by omega)]; done), (nI_1 i).symm⟩) (hk_i (vstepN_lt hh_i.1 hh_i.2))
            · refine zj_iload4 (n := 71) rfl dX10_nodeAtOrBehind_69 ?_
              refine zj_istore2 (n := 72) rfl dX10_nodeAtOrBehind_71 rfl (Nat.le_of_ble_eq_true rfl) ?_
              refine zj_iinc4 (n := 75) rfl dX10_nodeAtOrBehind_72 rfl (zi_1 _) (Nat.le_of_ble_eq_true rfl) ?_
              refine zj_goto (tgt := 7) dX10_nodeAtOrBehind_75 (by decide) ?_
              have hbn1 : ∀ n, s.1 = some n → n < 2 ^ 31 := fun n hn => by have := hh_i.1 n hn; omega
              have hbn2 : ∀ n, s.2 = some n → n < 2 ^ 31 := fun n hn => by have := hh_i.2 n hn; omega
              simp only [zo_none hbn1, zo_none hbn2, nI_ltI (ha i hi_i) hp] at *
              try simp only [nI_leI hbb1 (ha i hi_i)] at *
              try simp only [nI_leI hbb2 (ha i hi_i)] at *
              refine zj_sub (by simp only [zLe, eq_self, Value.int.injEq, and_true, true_and]; exact ⟨by first | (rw [vstepN_1a (by omega)]; done) | (rw [vstepN_1b (by omega) (by assumption)]; rfl) | (rw [vstepN_1c (by omega) (by assumption) (by omega)]; rfl) | (rw [vstepN_1d (by assumption) (by omega)]; done), by first | (rw [vstepN_2b (by assumption)]; rfl) | (rw [vstepN_2c (by assumption) (by omega)]; rfl) | (rw [vstepN_2d (by assumption) (by omega)]; done), (nI_1 i).symm⟩) (hk_i (vstepN_lt hh_i.1 hh_i.2))
  · intro hh_i
    refine zj_iload4 (n := 9) rfl dX10_nodeAtOrBehind_7 ?_
    refine zj_aload0 (n := 10) rfl dX10_nodeAtOrBehind_9 ?_
    refine zj_getr (n := 13) (q := w) rfl dX10_nodeAtOrBehind_10 zf_X10_24 rfl (by decide) (by decide) hA.now ?_
    refine zj_bipush (v := 6) (n := 15) rfl dX10_nodeAtOrBehind_13 (by decide) ?_
    refine zj_iaload (n := 16) rfl dX10_nodeAtOrBehind_15 hA.2.1.lt hA.2.1.ty (hA.in (j := 6) rfl (by decide)) ?_
    refine zj_icmp_ge (n := 19) (tgt := 78) rfl dX10_nodeAtOrBehind_16 (by decide) (fun c16 => ?_) (fun c16 => absurd c16 (fun q => q (by rw [hA.at (x := 6) (j := 6) rfl (by decide)]; exact nI_le (Nat.le_refl _) (by omega))))
    refine zj_iload2 (n := 79) rfl dX10_nodeAtOrBehind_78 ?_
    refine zj_iconst_m1 (n := 80) rfl dX10_nodeAtOrBehind_79 ?_
    refine zj_icmp_ne (n := 83) (tgt := 87) rfl dX10_nodeAtOrBehind_80 (by decide) (fun c80 => ?_) (fun c80 => ?_)
    · refine zj_iload2 (n := 88) rfl dX10_nodeAtOrBehind_87 ?_
      exact zj_ireturn dX10_nodeAtOrBehind_88 rfl rfl (zQi h (congrArg zo (by first | exact vfrom_a c80 | exact vfrom_b h6 c80)))
    · refine zj_iload3 (n := 84) rfl dX10_nodeAtOrBehind_83 ?_
      refine zj_goto (tgt := 88) dX10_nodeAtOrBehind_84 (by decide) ?_
      exact zj_ireturn dX10_nodeAtOrBehind_88 rfl rfl (zQi h (congrArg zo (by first | exact vfrom_a c80 | exact vfrom_b h6 c80)))
theorem vnext_lt {v : zV} {n : Nat} (h : 0 < v 6) : vnext v n < v 6 := by
  obtain ⟨k, hk⟩ := vfrom_some (v := v) (p := nd v n 0 + 1) h
  unfold vnext
  rw [hk]
  exact vfrom_lt hk
/-- the scan as a search with a state -/
theorem vscan_rule {v : zV} {can fz : Nat → Bool} {P : Nat → Nat → Option Nat → Prop} {N : Nat} {Qr : Option Nat → Prop} (h0 : 0 < v 6)
    (hs : ∀ i n any, i < N → n < v 6 → (∀ b, any = some b → b < v 6) → ((can n && fz n) = true → Qr (some n)) → ((can n && fz n) = false → P (i + 1) (vnext v n) (if can n && any.isNone then some n else any)) → P i n any)
    (he : ∀ n any, (∀ b, any = some b → b < v 6) → Qr any → P N n any) : ∀ k i n any, i + k = N → n < v 6 → (∀ b, any = some b → b < v 6) → Qr (vscan v can fz k n any) → P i n any := by
  intro k
  induction k with
  | zero =>
    intro i n any hi hn ha hq
    have : i = N := by omega
    subst this
    exact he n any ha hq
  | succ k ih =>
    intro i n any hi hn ha hq
    refine hs i n any (by omega) hn ha (fun hc => ?_) (fun hc => ?_)
    · rw [vscan, if_pos hc] at hq
      exact hq
    · rw [vscan, if_neg (by rw [hc]; decide)] at hq
      refine ih (i + 1) _ _ (by omega) (vnext_lt h0) (fun b hb => ?_) hq
      split at hb
      · cases hb; exact hn
      · exact ha b hb
theorem vcan_f1 {v : zV} {g many few n : Nat} (h : ¬ nd v n 4 = 0) : vcan v g many few n = false := by simp [vcan, h]
theorem vcan_f2 {v : zV} {g many few n : Nat} (h : vhas v g many n = true) : vcan v g many few n = false := by simp [vcan, h]
theorem vcan_f3 {v : zV} {g many few n : Nat} (h : nd v n 3 ≤ von v g few n) : vcan v g many few n = false := by simp [vcan, Nat.not_lt.mpr h]
theorem vcan_t {v : zV} {g many few n : Nat} (h1 : nd v n 4 = 0) (h2 : vhas v g many n = false) (h3 : ¬ nd v n 3 ≤ von v g few n) : vcan v g many few n = true := by simp [vcan, h1, h2, Nat.lt_of_not_le h3]
theorem vfz_f {v : zV} {g many n : Nat} {but : Int32} (h : zAny many (fun s => !decide (nI s = but) && (nd v (hol v g s) 1 == nd v n 1)) = true) : vfz v g many but n = false := by simp [vfz, h]
theorem vfz_t {v : zV} {g many n : Nat} {but : Int32} (h : zAny many (fun s => !decide (nI s = but) && (nd v (hol v g s) 1 == nd v n 1)) = false) : vfz v g many but n = true := by simp [vfz, h]
set_option maxRecDepth 100000 in
set_option maxHeartbeats 4000000 in
theorem jX10_placeFor {w : Nat} {v : zV} {g many p : Nat} {but : Int32} {more : Bool} {Q : Option Value → zM → Prop} {X : String → zM → Prop} {M : zM} (hA : zRA M w v) (h6 : v 6 ≤ 16) (h06 : 0 < v 6) (h8 : v 8 ≤ 10) (hnd : ∀ n, n < v 6 → nd v n 0 < 2 ^ 31 - 1 ∧ nd v n 1 < 2 ^ 31 ∧ nd v n 3 < 2 ^ 31 ∧ nd v n 4 < 2 ^ 31) (hp : p < 2 ^ 31) (hsh : ∀ g, g < v 8 → vsh v g ≤ 10) (hh : ∀ g s, g < v 8 → s < vsh v g → hol v g s < 16) (hg : g < 10) (hma : many ≤ 10) (hho : ∀ s, s < many → hol v g s < v 6) (hcn : ∀ n, von v g (if more then many else 0) n < 2 ^ 31) (h : Q (some (.int (zo (vplace v g many (if more then many else 0) but p)))) M) : zJ yX10_placeFor cX10_placeFor 10 (some .int) rX10_placeFor Q X rX10_placeFor.cells rX10_placeFor.slots 0 (zEnt 10 [.ref 118, .int (nI g), .int (nI many), .int but, .int (nI p), .int (zb more)]) [] M := by
  obtain ⟨n0, hn0⟩ := vfrom_some (v := v) (p := p) h06
  have h0lt := vfrom_lt hn0
  show zJ yX10_placeFor cX10_placeFor 10 (some .int) rX10_placeFor Q X 0 0 0 [some (.ref 118), some (.int (nI g)), some (.int (nI many)), some (.int but), some (.int (nI p)), some (.int (zb more)), none, none, none, none] [] M
  refine zj_iconst_m1 (n := 1) rfl dX10_placeFor_0 ?_
  refine zj_istore6 (n := 3) rfl dX10_placeFor_1 rfl (Nat.le_of_ble_eq_true rfl) ?_
  refine zj_aload0 (n := 4) rfl dX10_placeFor_3 ?_
  refine zj_iload4 (n := 6) rfl dX10_placeFor_4 ?_
  refine zj_callV1 (n := 9) (a' := 0) (b' := 0) rfl dX10_placeFor_6 zm_X10_80 (by decide) (by decide) rfl (Nat.le_of_ble_eq_true rfl) (Nat.le_of_ble_eq_true rfl) (Nat.le_of_ble_eq_true rfl) (Nat.le_of_ble_eq_true rfl) (jX10_nodeAtOrBehind hA h6 (fun n hn => Nat.lt_of_lt_of_le (hnd n hn).1 (by decide)) hp ?_)
  refine zj_istore7 (n := 11) rfl dX10_placeFor_9 rfl (Nat.le_of_ble_eq_true rfl) ?_
  refine zj_iconst_0 (n := 12) rfl dX10_placeFor_11 ?_
  refine zj_istore8 (n := 14) rfl dX10_placeFor_12 rfl (Nat.le_of_ble_eq_true rfl) ?_
  rw [hn0]
  refine vscan_rule (v := v) (can := vcan v g many (if more then many else 0)) (fz := vfz v g many but) (P := fun i n any => zJ yX10_placeFor cX10_placeFor 10 (some .int) rX10_placeFor Q X 0 0 14 [some (.ref 118), some (.int (nI g)), some (.int (nI many)), some (.int but), some (.int (nI p)), some (.int (zb more)), some (.int (zo any)), some (.int (nI n)), some (.int (nI i)), none] [] M) (N := v 6) (Qr := fun r => Q (some (.int (zo r))) M) h06 ?_ ?_ (v 6) 0 n0 none (by omega) h0lt (fun b hb => nomatch hb) (by unfold vplace at h; rw [hn0] at h; exact h)
  · intro i n any hi_i hn han hr hk
    have hn16 : n < 16 := by omega
    have q0 := (hnd n hn).1
    have q1 := (hnd n hn).2.1
    have q3 := (hnd n hn).2.2.1
    have q4 := (hnd n hn).2.2.2
    have hany : ∀ b, any = some b → b < 2 ^ 31 := fun b hb => by have := han b hb; omega
    have hcv := hcn n
    have hho31 : ∀ s, s < many → hol v g s < 2 ^ 31 := fun s hs => by have := hho s hs; omega
    have hho16 : ∀ s, s < many → hol v g s < 16 := fun s hs => by have := hho s hs; omega
    have hz31 : ∀ s, s < many → nd v (hol v g s) 1 < 2 ^ 31 := fun s hs => (hnd _ (hho s hs)).2.1
    have hst31 : ∀ g s, g < v 8 → s < vsh v g → hol v g s < 2 ^ 31 := fun g s h1 h2 => by have := hh g s h1 h2; omega
    refine zj_iload8 (n := 16) rfl dX10_placeFor_14 ?_
    refine zj_aload0 (n := 17) rfl dX10_placeFor_16 ?_
    refine zj_getr (n := 20) (q := w) rfl dX10_placeFor_17 zf_X10_24 rfl (by decide) (by decide) hA.now ?_
    refine zj_bipush (v := 6) (n := 22) rfl dX10_placeFor_20 (by decide) ?_
    refine zj_iaload (n := 23) rfl dX10_placeFor_22 hA.2.1.lt hA.2.1.ty (hA.in (j := 6) rfl (by decide)) ?_
    refine zj_icmp_ge (n := 26) (tgt := 142) rfl dX10_placeFor_23 (by decide) (fun c23 => absurd c23 (by rw [hA.at (x := 6) (j := 6) rfl (by decide)]; exact nI_ge hi_i (by omega))) (fun c23 => ?_)
    refine zj_aload0 (n := 27) rfl dX10_placeFor_26 ?_
    refine zj_iload7 (n := 29) rfl dX10_placeFor_27 ?_
    refine zj_iconst_4 (n := 30) rfl dX10_placeFor_29 ?_
    refine zj_callV2 (n := 33) (a' := 0) (b' := 0) rfl dX10_placeFor_30 zm_X10_77 (by decide) (by decide) rfl (Nat.le_of_ble_eq_true rfl) (Nat.le_of_ble_eq_true rfl) (Nat.le_of_ble_eq_true rfl) (Nat.le_of_ble_eq_true rfl) (jX10_nodeValue (c := 4) hA (by omega) ?_)
    refine zj_if_ne (n := 36) (tgt := 78) rfl dX10_placeFor_33 (by decide) (fun c33 => ?_) (fun c33 => ?_)
    · refine zj_iconst_0 (n := 79) rfl dX10_placeFor_78 ?_
      refine zj_istore9 (n := 81) rfl dX10_placeFor_79 rfl (Nat.le_of_ble_eq_true rfl) ?_
      refine zj_iload9 (n := 83) rfl dX10_placeFor_81 ?_
      refine zj_if_eq (n := 86) (tgt := 106) rfl dX10_placeFor_83 (by decide) (fun _ => ?_) (fun h => absurd h (by decide))
      refine zj_iload9 (n := 108) rfl dX10_placeFor_106 ?_
      refine zj_if_eq (n := 111) (tgt := 121) rfl dX10_placeFor_108 (by decide) (fun _ => ?_) (fun h => absurd h (by decide))
      refine zj_aload0 (n := 122) rfl dX10_placeFor_121 ?_
      refine zj_aload0 (n := 123) rfl dX10_placeFor_122 ?_
      refine zj_iload7 (n := 125) rfl dX10_placeFor_123 ?_
      refine zj_iconst_0 (n := 126) rfl dX10_placeFor_125 ?_
      refine zj_callV2 (n := 129) (a' := 0) (b' := 0) rfl dX10_placeFor_126 zm_X10_77 (by decide) (by decide) rfl (Nat.le_of_ble_eq_true rfl) (Nat.le_of_ble_eq_true rfl) (Nat.le_of_ble_eq_true rfl) (Nat.le_of_ble_eq_true rfl) (jX10_nodeValue (c := 0) hA (by omega) ?_)
      refine zj_iconst_1 (n := 130) rfl dX10_placeFor_129 ?_
      refine zj_iadd (n := 131) rfl dX10_placeFor_130 ?_
      refine zj_eq rfl (st' := .int (nI (nd v n 0 + 1)) :: .ref 118 :: []) (by rw [nI_1]) rfl ?_
      refine zj_callV1 (n := 134) (a' := 0) (b' := 0) rfl dX10_placeFor_131 zm_X10_80 (by decide) (by decide) rfl (Nat.le_of_ble_eq_true rfl) (Nat.le_of_ble_eq_true rfl) (Nat.le_of_ble_eq_true rfl) (Nat.le_of_ble_eq_true rfl) (jX10_nodeAtOrBehind (p := nd v n 0 + 1) hA h6 (fun n hn => Nat.lt_of_lt_of_le (hnd n hn).1 (by decide)) (by omega) ?_)
      refine zj_istore7 (n := 136) rfl dX10_placeFor_134 rfl (Nat.le_of_ble_eq_true rfl) ?_
      refine zj_iinc8 (n := 139) rfl dX10_placeFor_136 rfl (zi_1 _) (Nat.le_of_ble_eq_true rfl) ?_
      refine zj_goto (tgt := 14) dX10_placeFor_139 (by decide) ?_
      obtain ⟨nx, hnx⟩ := vfrom_some (v := v) (p := nd v n 0 + 1) h06
      have env : vnext v n = nx := by unfold vnext; rw [hnx]; rfl
      rw [env] at hk
      rw [hnx]
      simp only [nI_eq0 q4, zb_eq0, Bool.not_eq_false, zo_none hany] at *
      first
        | (have hcan := vcan_f1 (v := v) (g := g) (many := many) (few := (if more then many else 0)) c33
           have hk2 := hk (by rw [hcan]; rfl)
           rw [hcan] at hk2
           exact zj_sub (by simp only [zLe, eq_self, Value.int.injEq, and_true, true_and]; exact ⟨by simp, rfl, (nI_1 i).symm⟩) hk2)
        | (have hcan := vcan_f2 (v := v) (g := g) (many := many) (few := (if more then many else 0)) c44
           have hk2 := hk (by rw [hcan]; rfl)
           rw [hcan] at hk2
           exact zj_sub (by simp only [zLe, eq_self, Value.int.injEq, and_true, true_and]; exact ⟨by simp, rfl, (nI_1 i).symm⟩) hk2)
        | (have hcan := vcan_f3 (v := v) (g := g) (many := many) ((nI_leI q3 hcv).mp c71)
           have hk2 := hk (by rw [hcan]; rfl)
           rw [hcan] at hk2
           exact zj_sub (by simp only [zLe, eq_self, Value.int.injEq, and_true, true_and]; exact ⟨by simp, rfl, (nI_1 i).symm⟩) hk2)
        | (have hcan := vcan_t (v := v) (g := g) (many := many) c33 c44 (fun e => c71 ((nI_leI q3 hcv).mpr e))
           have hfz := vfz_f (but := but) c100
           have hk2 := hk (by rw [hcan, hfz]; rfl)
           rw [hcan] at hk2
           exact zj_sub (by simp only [zLe, eq_self, Value.int.injEq, and_true, true_and]; exact ⟨by first | (rw [c114]; rfl) | (obtain ⟨b, hb⟩ := Option.ne_none_iff_exists'.mp c114; rw [hb]; rfl), rfl, (nI_1 i).symm⟩) hk2)
    · refine zj_aload0 (n := 37) rfl dX10_placeFor_36 ?_
      refine zj_iload1 (n := 38) rfl dX10_placeFor_37 ?_
      refine zj_iload2 (n := 39) rfl dX10_placeFor_38 ?_
      refine zj_iload7 (n := 41) rfl dX10_placeFor_39 ?_
      refine zj_callV3 (n := 44) (a' := 0) (b' := 0) rfl dX10_placeFor_41 zm_X10_83 (by decide) (by decide) rfl (Nat.le_of_ble_eq_true rfl) (Nat.le_of_ble_eq_true rfl) (Nat.le_of_ble_eq_true rfl) (Nat.le_of_ble_eq_true rfl) (jX10_hasShardOn hA hg (by omega) hho31 (by omega) ?_)
      refine zj_if_ne (n := 47) (tgt := 78) rfl dX10_placeFor_44 (by decide) (fun c44 => ?_) (fun c44 => ?_)
      · refine zj_iconst_0 (n := 79) rfl dX10_placeFor_78 ?_
        refine zj_istore9 (n := 81) rfl dX10_placeFor_79 rfl (Nat.le_of_ble_eq_true rfl) ?_
        refine zj_iload9 (n := 83) rfl dX10_placeFor_81 ?_
        refine zj_if_eq (n := 86) (tgt := 106) rfl dX10_placeFor_83 (by decide) (fun _ => ?_) (fun h => absurd h (by decide))
        refine zj_iload9 (n := 108) rfl dX10_placeFor_106 ?_
        refine zj_if_eq (n := 111) (tgt := 121) rfl dX10_placeFor_108 (by decide) (fun _ => ?_) (fun h => absurd h (by decide))
        refine zj_aload0 (n := 122) rfl dX10_placeFor_121 ?_
        refine zj_aload0 (n := 123) rfl dX10_placeFor_122 ?_
        refine zj_iload7 (n := 125) rfl dX10_placeFor_123 ?_
        refine zj_iconst_0 (n := 126) rfl dX10_placeFor_125 ?_
        refine zj_callV2 (n := 129) (a' := 0) (b' := 0) rfl dX10_placeFor_126 zm_X10_77 (by decide) (by decide) rfl (Nat.le_of_ble_eq_true rfl) (Nat.le_of_ble_eq_true rfl) (Nat.le_of_ble_eq_true rfl) (Nat.le_of_ble_eq_true rfl) (jX10_nodeValue (c := 0) hA (by omega) ?_)
        refine zj_iconst_1 (n := 130) rfl dX10_placeFor_129 ?_
        refine zj_iadd (n := 131) rfl dX10_placeFor_130 ?_
        refine zj_eq rfl (st' := .int (nI (nd v n 0 + 1)) :: .ref 118 :: []) (by rw [nI_1]) rfl ?_
        refine zj_callV1 (n := 134) (a' := 0) (b' := 0) rfl dX10_placeFor_131 zm_X10_80 (by decide) (by decide) rfl (Nat.le_of_ble_eq_true rfl) (Nat.le_of_ble_eq_true rfl) (Nat.le_of_ble_eq_true rfl) (Nat.le_of_ble_eq_true rfl) (jX10_nodeAtOrBehind (p := nd v n 0 + 1) hA h6 (fun n hn => Nat.lt_of_lt_of_le (hnd n hn).1 (by decide)) (by omega) ?_)
        refine zj_istore7 (n := 136) rfl dX10_placeFor_134 rfl (Nat.le_of_ble_eq_true rfl) ?_
        refine zj_iinc8 (n := 139) rfl dX10_placeFor_136 rfl (zi_1 _) (Nat.le_of_ble_eq_true rfl) ?_
        refine zj_goto (tgt := 14) dX10_placeFor_139 (by decide) ?_
        obtain ⟨nx, hnx⟩ := vfrom_some (v := v) (p := nd v n 0 + 1) h06
        have env : vnext v n = nx := by unfold vnext; rw [hnx]; rfl
        rw [env] at hk
        rw [hnx]
        simp only [nI_eq0 q4, zb_eq0, Bool.not_eq_false, zo_none hany] at *
        first
          | (have hcan := vcan_f1 (v := v) (g := g) (many := many) (few := (if more then many else 0)) c33
             have hk2 := hk (by rw [hcan]; rfl)
             rw [hcan] at hk2
             exact zj_sub (by simp only [zLe, eq_self, Value.int.injEq, and_true, true_and]; exact ⟨by simp, rfl, (nI_1 i).symm⟩) hk2)
          | (have hcan := vcan_f2 (v := v) (g := g) (many := many) (few := (if more then many else 0)) c44
             have hk2 := hk (by rw [hcan]; rfl)
             rw [hcan] at hk2
             exact zj_sub (by simp only [zLe, eq_self, Value.int.injEq, and_true, true_and]; exact ⟨by simp, rfl, (nI_1 i).symm⟩) hk2)
          | (have hcan := vcan_f3 (v := v) (g := g) (many := many) ((nI_leI q3 hcv).mp c71)
             have hk2 := hk (by rw [hcan]; rfl)
             rw [hcan] at hk2
             exact zj_sub (by simp only [zLe, eq_self, Value.int.injEq, and_true, true_and]; exact ⟨by simp, rfl, (nI_1 i).symm⟩) hk2)
          | (have hcan := vcan_t (v := v) (g := g) (many := many) c33 c44 (fun e => c71 ((nI_leI q3 hcv).mpr e))
             have hfz := vfz_f (but := but) c100
             have hk2 := hk (by rw [hcan, hfz]; rfl)
             rw [hcan] at hk2
             exact zj_sub (by simp only [zLe, eq_self, Value.int.injEq, and_true, true_and]; exact ⟨by first | (rw [c114]; rfl) | (obtain ⟨b, hb⟩ := Option.ne_none_iff_exists'.mp c114; rw [hb]; rfl), rfl, (nI_1 i).symm⟩) hk2)
      · refine zj_aload0 (n := 48) rfl dX10_placeFor_47 ?_
        refine zj_iload7 (n := 50) rfl dX10_placeFor_48 ?_
        refine zj_iload1 (n := 51) rfl dX10_placeFor_50 ?_
        refine zj_iload5 (n := 53) rfl dX10_placeFor_51 ?_
        refine zj_if_eq (n := 56) (tgt := 60) rfl dX10_placeFor_53 (by decide) (fun c53 => ?_) (fun c53 => ?_)
        · simp only [zb_eq0, Bool.not_eq_false] at c53
          subst c53
          refine zj_iconst_0 (n := 61) rfl dX10_placeFor_60 ?_
          refine zj_callV3 (n := 64) (a' := 0) (b' := 0) rfl dX10_placeFor_61 zm_X10_87 (by decide) (by decide) rfl (Nat.le_of_ble_eq_true rfl) (Nat.le_of_ble_eq_true rfl) (Nat.le_of_ble_eq_true rfl) (Nat.le_of_ble_eq_true rfl) (jX10_shardsOn (few := 0) hA h8 hsh hst31 hg (by omega) (fun s hs => absurd hs (Nat.not_lt_zero s)) (by omega) ?_)
          refine zj_aload0 (n := 65) rfl dX10_placeFor_64 ?_
          refine zj_iload7 (n := 67) rfl dX10_placeFor_65 ?_
          refine zj_iconst_3 (n := 68) rfl dX10_placeFor_67 ?_
          refine zj_callV2 (n := 71) (a' := 0) (b' := 0) rfl dX10_placeFor_68 zm_X10_77 (by decide) (by decide) rfl (Nat.le_of_ble_eq_true rfl) (Nat.le_of_ble_eq_true rfl) (Nat.le_of_ble_eq_true rfl) (Nat.le_of_ble_eq_true rfl) (jX10_nodeValue (c := 3) hA (by omega) ?_)
          refine zj_icmp_ge (n := 74) (tgt := 78) rfl dX10_placeFor_71 (by decide) (fun c71 => ?_) (fun c71 => ?_)
          · refine zj_iconst_0 (n := 79) rfl dX10_placeFor_78 ?_
            refine zj_istore9 (n := 81) rfl dX10_placeFor_79 rfl (Nat.le_of_ble_eq_true rfl) ?_
            refine zj_iload9 (n := 83) rfl dX10_placeFor_81 ?_
            refine zj_if_eq (n := 86) (tgt := 106) rfl dX10_placeFor_83 (by decide) (fun _ => ?_) (fun h => absurd h (by decide))
            refine zj_iload9 (n := 108) rfl dX10_placeFor_106 ?_
            refine zj_if_eq (n := 111) (tgt := 121) rfl dX10_placeFor_108 (by decide) (fun _ => ?_) (fun h => absurd h (by decide))
            refine zj_aload0 (n := 122) rfl dX10_placeFor_121 ?_
            refine zj_aload0 (n := 123) rfl dX10_placeFor_122 ?_
            refine zj_iload7 (n := 125) rfl dX10_placeFor_123 ?_
            refine zj_iconst_0 (n := 126) rfl dX10_placeFor_125 ?_
            refine zj_callV2 (n := 129) (a' := 0) (b' := 0) rfl dX10_placeFor_126 zm_X10_77 (by decide) (by decide) rfl (Nat.le_of_ble_eq_true rfl) (Nat.le_of_ble_eq_true rfl) (Nat.le_of_ble_eq_true rfl) (Nat.le_of_ble_eq_true rfl) (jX10_nodeValue (c := 0) hA (by omega) ?_)
            refine zj_iconst_1 (n := 130) rfl dX10_placeFor_129 ?_
            refine zj_iadd (n := 131) rfl dX10_placeFor_130 ?_
            refine zj_eq rfl (st' := .int (nI (nd v n 0 + 1)) :: .ref 118 :: []) (by rw [nI_1]) rfl ?_
            refine zj_callV1 (n := 134) (a' := 0) (b' := 0) rfl dX10_placeFor_131 zm_X10_80 (by decide) (by decide) rfl (Nat.le_of_ble_eq_true rfl) (Nat.le_of_ble_eq_true rfl) (Nat.le_of_ble_eq_true rfl) (Nat.le_of_ble_eq_true rfl) (jX10_nodeAtOrBehind (p := nd v n 0 + 1) hA h6 (fun n hn => Nat.lt_of_lt_of_le (hnd n hn).1 (by decide)) (by omega) ?_)
            refine zj_istore7 (n := 136) rfl dX10_placeFor_134 rfl (Nat.le_of_ble_eq_true rfl) ?_
            refine zj_iinc8 (n := 139) rfl dX10_placeFor_136 rfl (zi_1 _) (Nat.le_of_ble_eq_true rfl) ?_
            refine zj_goto (tgt := 14) dX10_placeFor_139 (by decide) ?_
            obtain ⟨nx, hnx⟩ := vfrom_some (v := v) (p := nd v n 0 + 1) h06
            have env : vnext v n = nx := by unfold vnext; rw [hnx]; rfl
            rw [env] at hk
            rw [hnx]
            simp only [nI_eq0 q4, zb_eq0, Bool.not_eq_false, zo_none hany] at *
            first
              | (have hcan := vcan_f1 (v := v) (g := g) (many := many) (few := (if more then many else 0)) c33
                 have hk2 := hk (by rw [hcan]; rfl)
                 rw [hcan] at hk2
                 exact zj_sub (by simp only [zLe, eq_self, Value.int.injEq, and_true, true_and]; exact ⟨by simp, rfl, (nI_1 i).symm⟩) hk2)
              | (have hcan := vcan_f2 (v := v) (g := g) (many := many) (few := (if more then many else 0)) c44
                 have hk2 := hk (by rw [hcan]; rfl)
                 rw [hcan] at hk2
                 exact zj_sub (by simp only [zLe, eq_self, Value.int.injEq, and_true, true_and]; exact ⟨by simp, rfl, (nI_1 i).symm⟩) hk2)
              | (have hcan := vcan_f3 (v := v) (g := g) (many := many) ((nI_leI q3 hcv).mp c71)
                 have hk2 := hk (by rw [hcan]; rfl)
                 rw [hcan] at hk2
                 exact zj_sub (by simp only [zLe, eq_self, Value.int.injEq, and_true, true_and]; exact ⟨by simp, rfl, (nI_1 i).symm⟩) hk2)
              | (have hcan := vcan_t (v := v) (g := g) (many := many) c33 c44 (fun e => c71 ((nI_leI q3 hcv).mpr e))
                 have hfz := vfz_f (but := but) c100
                 have hk2 := hk (by rw [hcan, hfz]; rfl)
                 rw [hcan] at hk2
                 exact zj_sub (by simp only [zLe, eq_self, Value.int.injEq, and_true, true_and]; exact ⟨by first | (rw [c114]; rfl) | (obtain ⟨b, hb⟩ := Option.ne_none_iff_exists'.mp c114; rw [hb]; rfl), rfl, (nI_1 i).symm⟩) hk2)
          · refine zj_iconst_1 (n := 75) rfl dX10_placeFor_74 ?_
            refine zj_goto (tgt := 79) dX10_placeFor_75 (by decide) ?_
            refine zj_istore9 (n := 81) rfl dX10_placeFor_79 rfl (Nat.le_of_ble_eq_true rfl) ?_
            refine zj_iload9 (n := 83) rfl dX10_placeFor_81 ?_
            refine zj_if_eq (n := 86) (tgt := 106) rfl dX10_placeFor_83 (by decide) (fun h => absurd h (by decide)) (fun _ => ?_)
            refine zj_aload0 (n := 87) rfl dX10_placeFor_86 ?_
            refine zj_iload1 (n := 88) rfl dX10_placeFor_87 ?_
            refine zj_iload2 (n := 89) rfl dX10_placeFor_88 ?_
            refine zj_iload3 (n := 90) rfl dX10_placeFor_89 ?_
            refine zj_aload0 (n := 91) rfl dX10_placeFor_90 ?_
            refine zj_iload7 (n := 93) rfl dX10_placeFor_91 ?_
            refine zj_iconst_1 (n := 94) rfl dX10_placeFor_93 ?_
            refine zj_callV2 (n := 97) (a' := 0) (b' := 0) rfl dX10_placeFor_94 zm_X10_77 (by decide) (by decide) rfl (Nat.le_of_ble_eq_true rfl) (Nat.le_of_ble_eq_true rfl) (Nat.le_of_ble_eq_true rfl) (Nat.le_of_ble_eq_true rfl) (jX10_nodeValue (c := 1) hA (by omega) ?_)
            refine zj_callV4 (n := 100) (a' := 0) (b' := 0) rfl dX10_placeFor_97 zm_X10_91 (by decide) (by decide) rfl (Nat.le_of_ble_eq_true rfl) (Nat.le_of_ble_eq_true rfl) (Nat.le_of_ble_eq_true rfl) (Nat.le_of_ble_eq_true rfl) (jX10_isInZone hA hg (by omega) hho16 hz31 q1 ?_)
            refine zj_if_ne (n := 103) (tgt := 106) rfl dX10_placeFor_100 (by decide) (fun c100 => ?_) (fun c100 => ?_)
            · refine zj_iload9 (n := 108) rfl dX10_placeFor_106 ?_
              refine zj_if_eq (n := 111) (tgt := 121) rfl dX10_placeFor_108 (by decide) (fun h => absurd h (by decide)) (fun _ => ?_)
              refine zj_iload6 (n := 113) rfl dX10_placeFor_111 ?_
              refine zj_iconst_m1 (n := 114) rfl dX10_placeFor_113 ?_
              refine zj_icmp_ne (n := 117) (tgt := 121) rfl dX10_placeFor_114 (by decide) (fun c114 => ?_) (fun c114 => ?_)
              · refine zj_aload0 (n := 122) rfl dX10_placeFor_121 ?_
                refine zj_aload0 (n := 123) rfl dX10_placeFor_122 ?_
                refine zj_iload7 (n := 125) rfl dX10_placeFor_123 ?_
                refine zj_iconst_0 (n := 126) rfl dX10_placeFor_125 ?_
                refine zj_callV2 (n := 129) (a' := 0) (b' := 0) rfl dX10_placeFor_126 zm_X10_77 (by decide) (by decide) rfl (Nat.le_of_ble_eq_true rfl) (Nat.le_of_ble_eq_true rfl) (Nat.le_of_ble_eq_true rfl) (Nat.le_of_ble_eq_true rfl) (jX10_nodeValue (c := 0) hA (by omega) ?_)
                refine zj_iconst_1 (n := 130) rfl dX10_placeFor_129 ?_
                refine zj_iadd (n := 131) rfl dX10_placeFor_130 ?_
                refine zj_eq rfl (st' := .int (nI (nd v n 0 + 1)) :: .ref 118 :: []) (by rw [nI_1]) rfl ?_
                refine zj_callV1 (n := 134) (a' := 0) (b' := 0) rfl dX10_placeFor_131 zm_X10_80 (by decide) (by decide) rfl (Nat.le_of_ble_eq_true rfl) (Nat.le_of_ble_eq_true rfl) (Nat.le_of_ble_eq_true rfl) (Nat.le_of_ble_eq_true rfl) (jX10_nodeAtOrBehind (p := nd v n 0 + 1) hA h6 (fun n hn => Nat.lt_of_lt_of_le (hnd n hn).1 (by decide)) (by omega) ?_)
                refine zj_istore7 (n := 136) rfl dX10_placeFor_134 rfl (Nat.le_of_ble_eq_true rfl) ?_
                refine zj_iinc8 (n := 139) rfl dX10_placeFor_136 rfl (zi_1 _) (Nat.le_of_ble_eq_true rfl) ?_
                refine zj_goto (tgt := 14) dX10_placeFor_139 (by decide) ?_
                obtain ⟨nx, hnx⟩ := vfrom_some (v := v) (p := nd v n 0 + 1) h06
                have env : vnext v n = nx := by unfold vnext; rw [hnx]; rfl
                rw [env] at hk
                rw [hnx]
                simp only [nI_eq0 q4, zb_eq0, Bool.not_eq_false, zo_none hany] at *
                first
                  | (have hcan := vcan_f1 (v := v) (g := g) (many := many) (few := (if more then many else 0)) c33
                     have hk2 := hk (by rw [hcan]; rfl)
                     rw [hcan] at hk2
                     exact zj_sub (by simp only [zLe, eq_self, Value.int.injEq, and_true, true_and]; exact ⟨by simp, rfl, (nI_1 i).symm⟩) hk2)
                  | (have hcan := vcan_f2 (v := v) (g := g) (many := many) (few := (if more then many else 0)) c44
                     have hk2 := hk (by rw [hcan]; rfl)
                     rw [hcan] at hk2
                     exact zj_sub (by simp only [zLe, eq_self, Value.int.injEq, and_true, true_and]; exact ⟨by simp, rfl, (nI_1 i).symm⟩) hk2)
                  | (have hcan := vcan_f3 (v := v) (g := g) (many := many) ((nI_leI q3 hcv).mp c71)
                     have hk2 := hk (by rw [hcan]; rfl)
                     rw [hcan] at hk2
                     exact zj_sub (by simp only [zLe, eq_self, Value.int.injEq, and_true, true_and]; exact ⟨by simp, rfl, (nI_1 i).symm⟩) hk2)
                  | (have hcan := vcan_t (v := v) (g := g) (many := many) c33 c44 (fun e => c71 ((nI_leI q3 hcv).mpr e))
                     have hfz := vfz_f (but := but) c100
                     have hk2 := hk (by rw [hcan, hfz]; rfl)
                     rw [hcan] at hk2
                     exact zj_sub (by simp only [zLe, eq_self, Value.int.injEq, and_true, true_and]; exact ⟨by first | (rw [c114]; rfl) | (obtain ⟨b, hb⟩ := Option.ne_none_iff_exists'.mp c114; rw [hb]; rfl), rfl, (nI_1 i).symm⟩) hk2)
              · refine zj_iload7 (n := 119) rfl dX10_placeFor_117 ?_
                refine zj_istore6 (n := 121) rfl dX10_placeFor_119 rfl (Nat.le_of_ble_eq_true rfl) ?_
                refine zj_aload0 (n := 122) rfl dX10_placeFor_121 ?_
                refine zj_aload0 (n := 123) rfl dX10_placeFor_122 ?_
                refine zj_iload7 (n := 125) rfl dX10_placeFor_123 ?_
                refine zj_iconst_0 (n := 126) rfl dX10_placeFor_125 ?_
                refine zj_callV2 (n := 129) (a' := 0) (b' := 0) rfl dX10_placeFor_126 zm_X10_77 (by decide) (by decide) rfl (Nat.le_of_ble_eq_true rfl) (Nat.le_of_ble_eq_true rfl) (Nat.le_of_ble_eq_true rfl) (Nat.le_of_ble_eq_true rfl) (jX10_nodeValue (c := 0) hA (by omega) ?_)
                refine zj_iconst_1 (n := 130) rfl dX10_placeFor_129 ?_
                refine zj_iadd (n := 131) rfl dX10_placeFor_130 ?_
                refine zj_eq rfl (st' := .int (nI (nd v n 0 + 1)) :: .ref 118 :: []) (by rw [nI_1]) rfl ?_
                refine zj_callV1 (n := 134) (a' := 0) (b' := 0) rfl dX10_placeFor_131 zm_X10_80 (by decide) (by decide) rfl (Nat.le_of_ble_eq_true rfl) (Nat.le_of_ble_eq_true rfl) (Nat.le_of_ble_eq_true rfl) (Nat.le_of_ble_eq_true rfl) (jX10_nodeAtOrBehind (p := nd v n 0 + 1) hA h6 (fun n hn => Nat.lt_of_lt_of_le (hnd n hn).1 (by decide)) (by omega) ?_)
                refine zj_istore7 (n := 136) rfl dX10_placeFor_134 rfl (Nat.le_of_ble_eq_true rfl) ?_
                refine zj_iinc8 (n := 139) rfl dX10_placeFor_136 rfl (zi_1 _) (Nat.le_of_ble_eq_true rfl) ?_
                refine zj_goto (tgt := 14) dX10_placeFor_139 (by decide) ?_
                obtain ⟨nx, hnx⟩ := vfrom_some (v := v) (p := nd v n 0 + 1) h06
                have env : vnext v n = nx := by unfold vnext; rw [hnx]; rfl
                rw [env] at hk
                rw [hnx]
                simp only [nI_eq0 q4, zb_eq0, Bool.not_eq_false, zo_none hany] at *
                first
                  | (have hcan := vcan_f1 (v := v) (g := g) (many := many) (few := (if more then many else 0)) c33
                     have hk2 := hk (by rw [hcan]; rfl)
                     rw [hcan] at hk2
                     exact zj_sub (by simp only [zLe, eq_self, Value.int.injEq, and_true, true_and]; exact ⟨by simp, rfl, (nI_1 i).symm⟩) hk2)
                  | (have hcan := vcan_f2 (v := v) (g := g) (many := many) (few := (if more then many else 0)) c44
                     have hk2 := hk (by rw [hcan]; rfl)
                     rw [hcan] at hk2
                     exact zj_sub (by simp only [zLe, eq_self, Value.int.injEq, and_true, true_and]; exact ⟨by simp, rfl, (nI_1 i).symm⟩) hk2)
                  | (have hcan := vcan_f3 (v := v) (g := g) (many := many) ((nI_leI q3 hcv).mp c71)
                     have hk2 := hk (by rw [hcan]; rfl)
                     rw [hcan] at hk2
                     exact zj_sub (by simp only [zLe, eq_self, Value.int.injEq, and_true, true_and]; exact ⟨by simp, rfl, (nI_1 i).symm⟩) hk2)
                  | (have hcan := vcan_t (v := v) (g := g) (many := many) c33 c44 (fun e => c71 ((nI_leI q3 hcv).mpr e))
                     have hfz := vfz_f (but := but) c100
                     have hk2 := hk (by rw [hcan, hfz]; rfl)
                     rw [hcan] at hk2
                     exact zj_sub (by simp only [zLe, eq_self, Value.int.injEq, and_true, true_and]; exact ⟨by first | (rw [c114]; rfl) | (obtain ⟨b, hb⟩ := Option.ne_none_iff_exists'.mp c114; rw [hb]; rfl), rfl, (nI_1 i).symm⟩) hk2)
            · refine zj_iload7 (n := 105) rfl dX10_placeFor_103 ?_
              exact zj_ireturn dX10_placeFor_105 rfl rfl (hr (by
    simp only [nI_eq0 q4, zb_eq0, Bool.not_eq_false] at *
    rw [vcan_t (v := v) (g := g) (many := many) c33 c44 (fun e => c71 ((nI_leI q3 hcv).mpr e)), vfz_t (but := but) c100]; rfl))
        · simp only [zb_eq0, Bool.not_eq_false] at c53
          subst c53
          refine zj_iload2 (n := 57) rfl dX10_placeFor_56 ?_
          refine zj_goto (tgt := 61) dX10_placeFor_57 (by decide) ?_
          refine zj_callV3 (n := 64) (a' := 0) (b' := 0) rfl dX10_placeFor_61 zm_X10_87 (by decide) (by decide) rfl (Nat.le_of_ble_eq_true rfl) (Nat.le_of_ble_eq_true rfl) (Nat.le_of_ble_eq_true rfl) (Nat.le_of_ble_eq_true rfl) (jX10_shardsOn (few := many) hA h8 hsh hst31 hg hma hho31 (by omega) ?_)
          refine zj_aload0 (n := 65) rfl dX10_placeFor_64 ?_
          refine zj_iload7 (n := 67) rfl dX10_placeFor_65 ?_
          refine zj_iconst_3 (n := 68) rfl dX10_placeFor_67 ?_
          refine zj_callV2 (n := 71) (a' := 0) (b' := 0) rfl dX10_placeFor_68 zm_X10_77 (by decide) (by decide) rfl (Nat.le_of_ble_eq_true rfl) (Nat.le_of_ble_eq_true rfl) (Nat.le_of_ble_eq_true rfl) (Nat.le_of_ble_eq_true rfl) (jX10_nodeValue (c := 3) hA (by omega) ?_)
          refine zj_icmp_ge (n := 74) (tgt := 78) rfl dX10_placeFor_71 (by decide) (fun c71 => ?_) (fun c71 => ?_)
          · refine zj_iconst_0 (n := 79) rfl dX10_placeFor_78 ?_
            refine zj_istore9 (n := 81) rfl dX10_placeFor_79 rfl (Nat.le_of_ble_eq_true rfl) ?_
            refine zj_iload9 (n := 83) rfl dX10_placeFor_81 ?_
            refine zj_if_eq (n := 86) (tgt := 106) rfl dX10_placeFor_83 (by decide) (fun _ => ?_) (fun h => absurd h (by decide))
            refine zj_iload9 (n := 108) rfl dX10_placeFor_106 ?_
            refine zj_if_eq (n := 111) (tgt := 121) rfl dX10_placeFor_108 (by decide) (fun _ => ?_) (fun h => absurd h (by decide))
            refine zj_aload0 (n := 122) rfl dX10_placeFor_121 ?_
            refine zj_aload0 (n := 123) rfl dX10_placeFor_122 ?_
            refine zj_iload7 (n := 125) rfl dX10_placeFor_123 ?_
            refine zj_iconst_0 (n := 126) rfl dX10_placeFor_125 ?_
            refine zj_callV2 (n := 129) (a' := 0) (b' := 0) rfl dX10_placeFor_126 zm_X10_77 (by decide) (by decide) rfl (Nat.le_of_ble_eq_true rfl) (Nat.le_of_ble_eq_true rfl) (Nat.le_of_ble_eq_true rfl) (Nat.le_of_ble_eq_true rfl) (jX10_nodeValue (c := 0) hA (by omega) ?_)
            refine zj_iconst_1 (n := 130) rfl dX10_placeFor_129 ?_
            refine zj_iadd (n := 131) rfl dX10_placeFor_130 ?_
            refine zj_eq rfl (st' := .int (nI (nd v n 0 + 1)) :: .ref 118 :: []) (by rw [nI_1]) rfl ?_
            refine zj_callV1 (n := 134) (a' := 0) (b' := 0) rfl dX10_placeFor_131 zm_X10_80 (by decide) (by decide) rfl (Nat.le_of_ble_eq_true rfl) (Nat.le_of_ble_eq_true rfl) (Nat.le_of_ble_eq_true rfl) (Nat.le_of_ble_eq_true rfl) (jX10_nodeAtOrBehind (p := nd v n 0 + 1) hA h6 (fun n hn => Nat.lt_of_lt_of_le (hnd n hn).1 (by decide)) (by omega) ?_)
            refine zj_istore7 (n := 136) rfl dX10_placeFor_134 rfl (Nat.le_of_ble_eq_true rfl) ?_
            refine zj_iinc8 (n := 139) rfl dX10_placeFor_136 rfl (zi_1 _) (Nat.le_of_ble_eq_true rfl) ?_
            refine zj_goto (tgt := 14) dX10_placeFor_139 (by decide) ?_
            obtain ⟨nx, hnx⟩ := vfrom_some (v := v) (p := nd v n 0 + 1) h06
            have env : vnext v n = nx := by unfold vnext; rw [hnx]; rfl
            rw [env] at hk
            rw [hnx]
            simp only [nI_eq0 q4, zb_eq0, Bool.not_eq_false, zo_none hany] at *
            first
              | (have hcan := vcan_f1 (v := v) (g := g) (many := many) (few := (if more then many else 0)) c33
                 have hk2 := hk (by rw [hcan]; rfl)
                 rw [hcan] at hk2
                 exact zj_sub (by simp only [zLe, eq_self, Value.int.injEq, and_true, true_and]; exact ⟨by simp, rfl, (nI_1 i).symm⟩) hk2)
              | (have hcan := vcan_f2 (v := v) (g := g) (many := many) (few := (if more then many else 0)) c44
                 have hk2 := hk (by rw [hcan]; rfl)
                 rw [hcan] at hk2
                 exact zj_sub (by simp only [zLe, eq_self, Value.int.injEq, and_true, true_and]; exact ⟨by simp, rfl, (nI_1 i).symm⟩) hk2)
              | (have hcan := vcan_f3 (v := v) (g := g) (many := many) ((nI_leI q3 hcv).mp c71)
                 have hk2 := hk (by rw [hcan]; rfl)
                 rw [hcan] at hk2
                 exact zj_sub (by simp only [zLe, eq_self, Value.int.injEq, and_true, true_and]; exact ⟨by simp, rfl, (nI_1 i).symm⟩) hk2)
              | (have hcan := vcan_t (v := v) (g := g) (many := many) c33 c44 (fun e => c71 ((nI_leI q3 hcv).mpr e))
                 have hfz := vfz_f (but := but) c100
                 have hk2 := hk (by rw [hcan, hfz]; rfl)
                 rw [hcan] at hk2
                 exact zj_sub (by simp only [zLe, eq_self, Value.int.injEq, and_true, true_and]; exact ⟨by first | (rw [c114]; rfl) | (obtain ⟨b, hb⟩ := Option.ne_none_iff_exists'.mp c114; rw [hb]; rfl), rfl, (nI_1 i).symm⟩) hk2)
          · refine zj_iconst_1 (n := 75) rfl dX10_placeFor_74 ?_
            refine zj_goto (tgt := 79) dX10_placeFor_75 (by decide) ?_
            refine zj_istore9 (n := 81) rfl dX10_placeFor_79 rfl (Nat.le_of_ble_eq_true rfl) ?_
            refine zj_iload9 (n := 83) rfl dX10_placeFor_81 ?_
            refine zj_if_eq (n := 86) (tgt := 106) rfl dX10_placeFor_83 (by decide) (fun h => absurd h (by decide)) (fun _ => ?_)
            refine zj_aload0 (n := 87) rfl dX10_placeFor_86 ?_
            refine zj_iload1 (n := 88) rfl dX10_placeFor_87 ?_
            refine zj_iload2 (n := 89) rfl dX10_placeFor_88 ?_
            refine zj_iload3 (n := 90) rfl dX10_placeFor_89 ?_
            refine zj_aload0 (n := 91) rfl dX10_placeFor_90 ?_
            refine zj_iload7 (n := 93) rfl dX10_placeFor_91 ?_
            refine zj_iconst_1 (n := 94) rfl dX10_placeFor_93 ?_
            refine zj_callV2 (n := 97) (a' := 0) (b' := 0) rfl dX10_placeFor_94 zm_X10_77 (by decide) (by decide) rfl (Nat.le_of_ble_eq_true rfl) (Nat.le_of_ble_eq_true rfl) (Nat.le_of_ble_eq_true rfl) (Nat.le_of_ble_eq_true rfl) (jX10_nodeValue (c := 1) hA (by omega) ?_)
            refine zj_callV4 (n := 100) (a' := 0) (b' := 0) rfl dX10_placeFor_97 zm_X10_91 (by decide) (by decide) rfl (Nat.le_of_ble_eq_true rfl) (Nat.le_of_ble_eq_true rfl) (Nat.le_of_ble_eq_true rfl) (Nat.le_of_ble_eq_true rfl) (jX10_isInZone hA hg (by omega) hho16 hz31 q1 ?_)
            refine zj_if_ne (n := 103) (tgt := 106) rfl dX10_placeFor_100 (by decide) (fun c100 => ?_) (fun c100 => ?_)
            · refine zj_iload9 (n := 108) rfl dX10_placeFor_106 ?_
              refine zj_if_eq (n := 111) (tgt := 121) rfl dX10_placeFor_108 (by decide) (fun h => absurd h (by decide)) (fun _ => ?_)
              refine zj_iload6 (n := 113) rfl dX10_placeFor_111 ?_
              refine zj_iconst_m1 (n := 114) rfl dX10_placeFor_113 ?_
              refine zj_icmp_ne (n := 117) (tgt := 121) rfl dX10_placeFor_114 (by decide) (fun c114 => ?_) (fun c114 => ?_)
              · refine zj_aload0 (n := 122) rfl dX10_placeFor_121 ?_
                refine zj_aload0 (n := 123) rfl dX10_placeFor_122 ?_
                refine zj_iload7 (n := 125) rfl dX10_placeFor_123 ?_
                refine zj_iconst_0 (n := 126) rfl dX10_placeFor_125 ?_
                refine zj_callV2 (n := 129) (a' := 0) (b' := 0) rfl dX10_placeFor_126 zm_X10_77 (by decide) (by decide) rfl (Nat.le_of_ble_eq_true rfl) (Nat.le_of_ble_eq_true rfl) (Nat.le_of_ble_eq_true rfl) (Nat.le_of_ble_eq_true rfl) (jX10_nodeValue (c := 0) hA (by omega) ?_)
                refine zj_iconst_1 (n := 130) rfl dX10_placeFor_129 ?_
                refine zj_iadd (n := 131) rfl dX10_placeFor_130 ?_
                refine zj_eq rfl (st' := .int (nI (nd v n 0 + 1)) :: .ref 118 :: []) (by rw [nI_1]) rfl ?_
                refine zj_callV1 (n := 134) (a' := 0) (b' := 0) rfl dX10_placeFor_131 zm_X10_80 (by decide) (by decide) rfl (Nat.le_of_ble_eq_true rfl) (Nat.le_of_ble_eq_true rfl) (Nat.le_of_ble_eq_true rfl) (Nat.le_of_ble_eq_true rfl) (jX10_nodeAtOrBehind (p := nd v n 0 + 1) hA h6 (fun n hn => Nat.lt_of_lt_of_le (hnd n hn).1 (by decide)) (by omega) ?_)
                refine zj_istore7 (n := 136) rfl dX10_placeFor_134 rfl (Nat.le_of_ble_eq_true rfl) ?_
                refine zj_iinc8 (n := 139) rfl dX10_placeFor_136 rfl (zi_1 _) (Nat.le_of_ble_eq_true rfl) ?_
                refine zj_goto (tgt := 14) dX10_placeFor_139 (by decide) ?_
                obtain ⟨nx, hnx⟩ := vfrom_some (v := v) (p := nd v n 0 + 1) h06
                have env : vnext v n = nx := by unfold vnext; rw [hnx]; rfl
                rw [env] at hk
                rw [hnx]
                simp only [nI_eq0 q4, zb_eq0, Bool.not_eq_false, zo_none hany] at *
                first
                  | (have hcan := vcan_f1 (v := v) (g := g) (many := many) (few := (if more then many else 0)) c33
                     have hk2 := hk (by rw [hcan]; rfl)
                     rw [hcan] at hk2
                     exact zj_sub (by simp only [zLe, eq_self, Value.int.injEq, and_true, true_and]; exact ⟨by simp, rfl, (nI_1 i).symm⟩) hk2)
                  | (have hcan := vcan_f2 (v := v) (g := g) (many := many) (few := (if more then many else 0)) c44
                     have hk2 := hk (by rw [hcan]; rfl)
                     rw [hcan] at hk2
                     exact zj_sub (by simp only [zLe, eq_self, Value.int.injEq, and_true, true_and]; exact ⟨by simp, rfl, (nI_1 i).symm⟩) hk2)
                  | (have hcan := vcan_f3 (v := v) (g := g) (many := many) ((nI_leI q3 hcv).mp c71)
                     have hk2 := hk (by rw [hcan]; rfl)
                     rw [hcan] at hk2
                     exact zj_sub (by simp only [zLe, eq_self, Value.int.injEq, and_true, true_and]; exact ⟨by simp, rfl, (nI_1 i).symm⟩) hk2)
                  | (have hcan := vcan_t (v := v) (g := g) (many := many) c33 c44 (fun e => c71 ((nI_leI q3 hcv).mpr e))
                     have hfz := vfz_f (but := but) c100
                     have hk2 := hk (by rw [hcan, hfz]; rfl)
                     rw [hcan] at hk2
                     exact zj_sub (by simp only [zLe, eq_self, Value.int.injEq, and_true, true_and]; exact ⟨by first | (rw [c114]; rfl) | (obtain ⟨b, hb⟩ := Option.ne_none_iff_exists'.mp c114; rw [hb]; rfl), rfl, (nI_1 i).symm⟩) hk2)
              · refine zj_iload7 (n := 119) rfl dX10_placeFor_117 ?_
                refine zj_istore6 (n := 121) rfl dX10_placeFor_119 rfl (Nat.le_of_ble_eq_true rfl) ?_
                refine zj_aload0 (n := 122) rfl dX10_placeFor_121 ?_
                refine zj_aload0 (n := 123) rfl dX10_placeFor_122 ?_
                refine zj_iload7 (n := 125) rfl dX10_placeFor_123 ?_
                refine zj_iconst_0 (n := 126) rfl dX10_placeFor_125 ?_
                refine zj_callV2 (n := 129) (a' := 0) (b' := 0) rfl dX10_placeFor_126 zm_X10_77 (by decide) (by decide) rfl (Nat.le_of_ble_eq_true rfl) (Nat.le_of_ble_eq_true rfl) (Nat.le_of_ble_eq_true rfl) (Nat.le_of_ble_eq_true rfl) (jX10_nodeValue (c := 0) hA (by omega) ?_)
                refine zj_iconst_1 (n := 130) rfl dX10_placeFor_129 ?_
                refine zj_iadd (n := 131) rfl dX10_placeFor_130 ?_
                refine zj_eq rfl (st' := .int (nI (nd v n 0 + 1)) :: .ref 118 :: []) (by rw [nI_1]) rfl ?_
                refine zj_callV1 (n := 134) (a' := 0) (b' := 0) rfl dX10_placeFor_131 zm_X10_80 (by decide) (by decide) rfl (Nat.le_of_ble_eq_true rfl) (Nat.le_of_ble_eq_true rfl) (Nat.le_of_ble_eq_true rfl) (Nat.le_of_ble_eq_true rfl) (jX10_nodeAtOrBehind (p := nd v n 0 + 1) hA h6 (fun n hn => Nat.lt_of_lt_of_le (hnd n hn).1 (by decide)) (by omega) ?_)
                refine zj_istore7 (n := 136) rfl dX10_placeFor_134 rfl (Nat.le_of_ble_eq_true rfl) ?_
                refine zj_iinc8 (n := 139) rfl dX10_placeFor_136 rfl (zi_1 _) (Nat.le_of_ble_eq_true rfl) ?_
                refine zj_goto (tgt := 14) dX10_placeFor_139 (by decide) ?_
                obtain ⟨nx, hnx⟩ := vfrom_some (v := v) (p := nd v n 0 + 1) h06
                have env : vnext v n = nx := by unfold vnext; rw [hnx]; rfl
                rw [env] at hk
                rw [hnx]
                simp only [nI_eq0 q4, zb_eq0, Bool.not_eq_false, zo_none hany] at *
                first
                  | (have hcan := vcan_f1 (v := v) (g := g) (many := many) (few := (if more then many else 0)) c33
                     have hk2 := hk (by rw [hcan]; rfl)
                     rw [hcan] at hk2
                     exact zj_sub (by simp only [zLe, eq_self, Value.int.injEq, and_true, true_and]; exact ⟨by simp, rfl, (nI_1 i).symm⟩) hk2)
                  | (have hcan := vcan_f2 (v := v) (g := g) (many := many) (few := (if more then many else 0)) c44
                     have hk2 := hk (by rw [hcan]; rfl)
                     rw [hcan] at hk2
                     exact zj_sub (by simp only [zLe, eq_self, Value.int.injEq, and_true, true_and]; exact ⟨by simp, rfl, (nI_1 i).symm⟩) hk2)
                  | (have hcan := vcan_f3 (v := v) (g := g) (many := many) ((nI_leI q3 hcv).mp c71)
                     have hk2 := hk (by rw [hcan]; rfl)
                     rw [hcan] at hk2
                     exact zj_sub (by simp only [zLe, eq_self, Value.int.injEq, and_true, true_and]; exact ⟨by simp, rfl, (nI_1 i).symm⟩) hk2)
                  | (have hcan := vcan_t (v := v) (g := g) (many := many) c33 c44 (fun e => c71 ((nI_leI q3 hcv).mpr e))
                     have hfz := vfz_f (but := but) c100
                     have hk2 := hk (by rw [hcan, hfz]; rfl)
                     rw [hcan] at hk2
                     exact zj_sub (by simp only [zLe, eq_self, Value.int.injEq, and_true, true_and]; exact ⟨by first | (rw [c114]; rfl) | (obtain ⟨b, hb⟩ := Option.ne_none_iff_exists'.mp c114; rw [hb]; rfl), rfl, (nI_1 i).symm⟩) hk2)
            · refine zj_iload7 (n := 105) rfl dX10_placeFor_103 ?_
              exact zj_ireturn dX10_placeFor_105 rfl rfl (hr (by
    simp only [nI_eq0 q4, zb_eq0, Bool.not_eq_false] at *
    rw [vcan_t (v := v) (g := g) (many := many) c33 c44 (fun e => c71 ((nI_leI q3 hcv).mpr e)), vfz_t (but := but) c100]; rfl))
  · intro n any han hq
    have hany : ∀ b, any = some b → b < 2 ^ 31 := fun b hb => by have := han b hb; omega
    refine zj_iload8 (n := 16) rfl dX10_placeFor_14 ?_
    refine zj_aload0 (n := 17) rfl dX10_placeFor_16 ?_
    refine zj_getr (n := 20) (q := w) rfl dX10_placeFor_17 zf_X10_24 rfl (by decide) (by decide) hA.now ?_
    refine zj_bipush (v := 6) (n := 22) rfl dX10_placeFor_20 (by decide) ?_
    refine zj_iaload (n := 23) rfl dX10_placeFor_22 hA.2.1.lt hA.2.1.ty (hA.in (j := 6) rfl (by decide)) ?_
    refine zj_icmp_ge (n := 26) (tgt := 142) rfl dX10_placeFor_23 (by decide) (fun c23 => ?_) (fun c23 => absurd c23 (fun q => q (by rw [hA.at (x := 6) (j := 6) rfl (by decide)]; exact nI_le (Nat.le_refl _) (by omega))))
    refine zj_iload6 (n := 144) rfl dX10_placeFor_142 ?_
    exact zj_ireturn dX10_placeFor_144 rfl rfl hq
