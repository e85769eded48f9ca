/-! THE REFERENCE, losses and bids -/
theorem zRA.ofL {M : zM} {w : Nat} {v : zV} {L : Nat → Nat → Int64} (h : zRA M w v) : zRA (M.1, L, M.2.2) w v := h
theorem zWF.pl {v : zV} (hW : zWF v) : v 6 ≤ 16 ∧ v 8 ≤ 10 ∧ (∀ n, n < v 6 → nd v n 0 < 2 ^ 31 - 1 ∧ nd v n 1 < 2 ^ 31 ∧ nd v n 3 < 2 ^ 31 ∧ nd v n 4 < 2 ^ 31) ∧ (∀ g, g < v 8 → vsh v g ≤ 10) ∧ (∀ g s, g < v 8 → s < vsh v g → hol v g s < 16) :=
  ⟨hW.nN, hW.gN, fun n hn => by have := hW.node hn; omega, fun g hg => (hW.sh hg).2, fun g s hg hs => by have := hW.holds hg hs; have := hW.nN; omega⟩
/-- where the shard of a group would be placed anew -/
def vpm (v : zV) (g s : Nat) : Option Nat := vplace v g (vsh v g) 0 (nI s) (nd v (hol v g s) 0 + 1)
theorem jX10_placeMissing {w : Nat} {v : zV} {g s : Nat} {Q : Option Value → zM → Prop} {X : String → zM → Prop} {M : zM} (hA : zRA M w v) (hW : zWF v) (hg : g < v 8) (hs : s < vsh v g) (h : Q (some (.int (zo (vpm v g s)))) M) : zJ yX10_placeMissing cX10_placeMissing 3 (some .int) rX10_placeMissing Q X rX10_placeMissing.cells rX10_placeMissing.slots 0 (zEnt 3 [.ref 118, .int (nI g), .int (nI s)]) [] M := by
  obtain ⟨g10, gsh, ghol, gst, gzo⟩ := hW.gh hg
  obtain ⟨p6, p8, pnd, psh, ph⟩ := hW.pl
  have hh6 := hW.holds hg hs
  have hp0 := (pnd _ hh6).1
  have hcn : ∀ n, von v g 0 n < 2 ^ 31 := fun n => by have h1 : von v g 0 n = vcnt v (v 8) n := rfl; rw [h1]; have := hW.cnt n; omega
  show zJ yX10_placeMissing cX10_placeMissing 3 (some .int) rX10_placeMissing Q X 0 0 0 [some (.ref 118), some (.int (nI g)), some (.int (nI s))] [] M
  refine zj_aload0 (n := 1) rfl dX10_placeMissing_0 ?_
  refine zj_iload1 (n := 2) rfl dX10_placeMissing_1 ?_
  refine zj_aload0 (n := 3) rfl dX10_placeMissing_2 ?_
  refine zj_iload1 (n := 4) rfl dX10_placeMissing_3 ?_
  refine zj_callV1 (n := 7) (a' := 0) (b' := 0) rfl dX10_placeMissing_4 zm_X10_70 (by decide) (by decide) rfl (Nat.le_of_ble_eq_true rfl) (Nat.le_of_ble_eq_true rfl) (Nat.le_of_ble_eq_true rfl) (Nat.le_of_ble_eq_true rfl) (jX10_shardsOf hA g10 ?_)
  refine zj_iload2 (n := 8) rfl dX10_placeMissing_7 ?_
  refine zj_aload0 (n := 9) rfl dX10_placeMissing_8 ?_
  refine zj_aload0 (n := 10) rfl dX10_placeMissing_9 ?_
  refine zj_iload1 (n := 11) rfl dX10_placeMissing_10 ?_
  refine zj_iload2 (n := 12) rfl dX10_placeMissing_11 ?_
  refine zj_callV2 (n := 15) (a' := 0) (b' := 0) rfl dX10_placeMissing_12 zm_X10_74 (by decide) (by decide) rfl (Nat.le_of_ble_eq_true rfl) (Nat.le_of_ble_eq_true rfl) (Nat.le_of_ble_eq_true rfl) (Nat.le_of_ble_eq_true rfl) (jX10_holder hA g10 (by omega) ?_)
  refine zj_iconst_0 (n := 16) rfl dX10_placeMissing_15 ?_
  refine zj_callV2 (n := 19) (a' := 0) (b' := 0) rfl dX10_placeMissing_16 zm_X10_77 (by decide) (by decide) rfl (Nat.le_of_ble_eq_true rfl) (Nat.le_of_ble_eq_true rfl) (Nat.le_of_ble_eq_true rfl) (Nat.le_of_ble_eq_true rfl) (jX10_nodeValue (c := 0) hA (by omega) ?_)
  refine zj_iconst_1 (n := 20) rfl dX10_placeMissing_19 ?_
  refine zj_iadd (n := 21) rfl dX10_placeMissing_20 ?_
  refine zj_iconst_0 (n := 22) rfl dX10_placeMissing_21 ?_
  refine zj_eq rfl (st' := .int (zb false) :: .int (nI (nd v (hol v g s) 0 + 1)) :: .int (nI s) :: .int (nI (vsh v g)) :: .int (nI g) :: .ref 118 :: []) (by rw [← nI_1]; rfl) rfl ?_
  refine zj_callV5 (n := 25) (a' := 0) (b' := 0) rfl dX10_placeMissing_22 zm_X10_95 (by decide) (by decide) rfl (Nat.le_of_ble_eq_true rfl) (Nat.le_of_ble_eq_true rfl) (Nat.le_of_ble_eq_true rfl) (Nat.le_of_ble_eq_true rfl) (jX10_placeFor (more := false) hA p6 (by omega) p8 pnd (by omega) psh ph g10 gsh (fun s hs => hW.holds hg hs) hcn ?_)
  exact zj_ireturn dX10_placeMissing_25 rfl rfl h
def vL1 (L : Nat → Nat → Int64) : Nat → Nat → Int64 := zFor 11 (fun i (L : Nat → Nat → Int64) => zU L 121 i (lN (vp0 i))) L
def vL2 (v : zV) (d g k : Nat) (L : Nat → Nat → Int64) : Nat → Nat → Int64 := zFor k (fun s (L : Nat → Nat → Int64) => if vav v d g s then zFor (vnav v d g + 1) (zstepL 121 (vnav v d g) (lN (nd v (hol v g s) 2))) L else L) (vL1 L)
theorem vL2_succ {v : zV} {d g k : Nat} {L : Nat → Nat → Int64} : vL2 v d g (k + 1) L = if vav v d g k then zFor (vnav v d g + 1) (zstepL 121 (vnav v d g) (lN (nd v (hol v g k) 2))) (vL2 v d g k L) else vL2 v d g k L := rfl
theorem vL1_row {L : Nat → Nat → Int64} : zLr (vL1 L) 121 11 vp0 ∧ ∀ a, a ≠ 121 → vL1 L a = L a := by
  obtain ⟨h1, h2⟩ := zU_row (L := L) (k := 121) (f := fun i => lN (vp0 i)) (n := 11)
  exact ⟨fun j hj => by unfold vL1; rw [h2 j, if_pos hj], h1⟩
theorem vL2_row {v : zV} (hW : zWF v) {d g : Nat} (hg : g < v 8) {k : Nat} (hk : k ≤ vsh v g) {L : Nat → Nat → Int64} : zLr (vL2 v d g k L) 121 11 (zFor k (fun s p => if vav v d g s then vstepP (vnav v d g) (nd v (hol v g s) 2) p else p) vp0) ∧ ∀ a, a ≠ 121 → vL2 v d g k L a = L a := by
  induction k with
  | zero => exact vL1_row
  | succ k ih =>
    obtain ⟨h1, h2⟩ := ih (by omega)
    have hs : k < vsh v g := by omega
    have hm : vnav v d g ≤ 10 := by have := zCnt_le (vsh v g) (fun s => vav v d g s); have := (hW.sh hg).2; unfold vnav; omega
    have e1 : vL2 v d g (k + 1) L = if vav v d g k then zFor (vnav v d g + 1) (zstepL 121 (vnav v d g) (lN (nd v (hol v g k) 2))) (vL2 v d g k L) else vL2 v d g k L := rfl
    have e2 : zFor (k + 1) (fun s p => if vav v d g s then vstepP (vnav v d g) (nd v (hol v g s) 2) p else p) vp0 = if vav v d g k then vstepP (vnav v d g) (nd v (hol v g k) 2) (zFor k (fun s p => if vav v d g s then vstepP (vnav v d g) (nd v (hol v g s) 2) p else p) vp0) else zFor k (fun s p => if vav v d g s then vstepP (vnav v d g) (nd v (hol v g s) 2) p else p) vp0 := rfl
    rw [e1, e2]
    cases hav : vav v d g k with
    | false => simp only [Bool.false_eq_true, if_false]; exact ⟨h1, h2⟩
    | true =>
      simp only [if_true]
      have hp : ∀ j, zFor k (fun s p => if vav v d g s then vstepP (vnav v d g) (nd v (hol v g s) 2) p else p) vp0 j ≤ 1000000000 := fun j =>
        Nat.le_trans (vsum_le (Nat.lt_succ_self j)) (vprob_part (hW.risk hg) (by omega) (j + 1))
      obtain ⟨h3, h4⟩ := zstepL_row h1 hm (hW.risk hg k hs) hp
      exact ⟨h3, fun a ha => (h4 a ha).trans (h2 a ha)⟩
set_option maxRecDepth 100000 in
set_option maxHeartbeats 4000000 in
theorem jX10_lossOf {w : Nat} {v : zV} {g d : Nat} {Q : Option Value → zM → Prop} {X : String → zM → Prop} {M : zM} (hA : zRA M w v) (hW : zWF v) (hd : M.1 118 4 = nI d) (hd2 : d < 2 ^ 16) (hg : g < v 8) (h : ∀ L, (∀ a, a ≠ 121 → L a = M.2.1 a) → Q (some (.int (nI (vloss v d g)))) (M.1, L, M.2.2)) : zJ yX10_lossOf cX10_lossOf 8 (some .int) rX10_lossOf Q X rX10_lossOf.cells rX10_lossOf.slots 0 (zEnt 8 [.ref 118, .int (nI g)]) [] M := by
  obtain ⟨g10, gsh, ghol, gst, gzo⟩ := hW.gh hg
  have h231 : d < 2 ^ 31 := by omega
  have hr := hW.grp hg
  have hnav : vnav v d g ≤ 10 := by have := zCnt_le (vsh v g) (fun s => vav v d g s); unfold vnav; omega
  have hg2 : gp v g 2 ≤ 6 := hr.2.2.2.1
  show zJ yX10_lossOf cX10_lossOf 8 (some .int) rX10_lossOf Q X 0 0 0 [some (.ref 118), some (.int (nI g)), none, none, none, none, none, none] [] M
  refine zj_aload0 (n := 1) rfl dX10_lossOf_0 ?_
  refine zj_iload1 (n := 2) rfl dX10_lossOf_1 ?_
  refine zj_callV1 (n := 5) (a' := 0) (b' := 0) rfl dX10_lossOf_2 zm_X10_115 (by decide) (by decide) rfl (Nat.le_of_ble_eq_true rfl) (Nat.le_of_ble_eq_true rfl) (Nat.le_of_ble_eq_true rfl) (Nat.le_of_ble_eq_true rfl) (jX10_availableOf hA hW hd hd2 hg ?_)
  refine zj_istore2 (n := 6) rfl dX10_lossOf_5 rfl (Nat.le_of_ble_eq_true rfl) ?_
  refine zj_aload0 (n := 7) rfl dX10_lossOf_6 ?_
  refine zj_iload1 (n := 8) rfl dX10_lossOf_7 ?_
  refine zj_iconst_2 (n := 9) rfl dX10_lossOf_8 ?_
  refine zj_callV2 (n := 12) (a' := 0) (b' := 0) rfl dX10_lossOf_9 zm_X10_66 (by decide) (by decide) rfl (Nat.le_of_ble_eq_true rfl) (Nat.le_of_ble_eq_true rfl) (Nat.le_of_ble_eq_true rfl) (Nat.le_of_ble_eq_true rfl) (jX10_groupValue (c := 2) hA (by omega) ?_)
  refine zj_istore3 (n := 13) rfl dX10_lossOf_12 rfl (Nat.le_of_ble_eq_true rfl) ?_
  refine zj_iload2 (n := 14) rfl dX10_lossOf_13 ?_
  refine zj_iload3 (n := 15) rfl dX10_lossOf_14 ?_
  refine zj_icmp_ge (n := 18) (tgt := 21) rfl dX10_lossOf_15 (by decide) (fun c15 => ?_) (fun c15 => ?_)
  · refine zj_iconst_0 (n := 22) rfl dX10_lossOf_21 ?_
    refine zj_istore4 (n := 24) rfl dX10_lossOf_22 rfl (Nat.le_of_ble_eq_true rfl) ?_
    refine zFor_rule (P := fun i (s : Nat → Nat → Int64) => zJ yX10_lossOf cX10_lossOf 8 (some .int) rX10_lossOf Q X 0 0 24 [some (.ref 118), some (.int (nI g)), some (.int (nI (vnav v d g))), some (.int (nI (gp v g 2))), some (.int (nI i)), none, none, none] [] (M.1, s, M.2.2)) (n := 11) (f := fun i (L : Nat → Nat → Int64) => zU L 121 i (lN (vp0 i))) (s0 := M.2.1) ?_ ?_
    · intro i s hi_i hk_i
      refine zj_iload4 (n := 26) rfl dX10_lossOf_24 ?_
      refine zj_bipush (v := 10) (n := 28) rfl dX10_lossOf_26 (by decide) ?_
      refine zj_icmp_gt (n := 31) (tgt := 56) rfl dX10_lossOf_28 (by decide) (fun c28 => absurd c28 (fun e => by have := (nI_ltI (a := 10) (b := i) (by decide) (by omega)).mp e; omega)) (fun c28 => ?_)
      refine zj_aload0 (n := 32) rfl dX10_lossOf_31 ?_
      refine zj_getr (n := 35) (q := 121) rfl dX10_lossOf_32 zf_X10_27 rfl (by decide) (by decide) rfl ?_
      refine zj_iload4 (n := 37) rfl dX10_lossOf_35 ?_
      refine zj_iload4 (n := 39) rfl dX10_lossOf_37 ?_
      refine zj_if_ne (n := 42) (tgt := 48) rfl dX10_lossOf_39 (by decide) (fun c39 => ?_) (fun c39 => ?_)
      · refine zj_lconst_0 (n := 49) rfl dX10_lossOf_48 ?_
        refine zj_lastore (n := 50) rfl dX10_lossOf_49 (by decide) (by decide) (by rw [show zLen 121 = 11 from rfl]; exact zin_at (j := i) (by rfl) (by omega) (by decide)) ?_
        refine zj_iinc4 (n := 53) rfl dX10_lossOf_50 rfl (zi_1 _) (Nat.le_of_ble_eq_true rfl) ?_
        refine zj_goto (tgt := 24) dX10_lossOf_53 (by decide) ?_
        refine zj_sub (by simp only [zLe, eq_self, Value.int.injEq, and_true, true_and]; exact (nI_1 i).symm) (zj_eq rfl rfl (by rw [nI_clamp (show i < 2 ^ 31 by omega)]; simp only [nI_eq0 (show i < 2 ^ 31 by omega)] at c39; simp [vp0, c39]; try rfl) hk_i)
      · refine zj_ldc2 (n := 45) rfl dX10_lossOf_42 zc_X10_126 ?_
        refine zj_goto (tgt := 49) dX10_lossOf_45 (by decide) ?_
        refine zj_lastore (n := 50) rfl dX10_lossOf_49 (by decide) (by decide) (by rw [show zLen 121 = 11 from rfl]; exact zin_at (j := i) (by rfl) (by omega) (by decide)) ?_
        refine zj_iinc4 (n := 53) rfl dX10_lossOf_50 rfl (zi_1 _) (Nat.le_of_ble_eq_true rfl) ?_
        refine zj_goto (tgt := 24) dX10_lossOf_53 (by decide) ?_
        refine zj_sub (by simp only [zLe, eq_self, Value.int.injEq, and_true, true_and]; exact (nI_1 i).symm) (zj_eq rfl rfl (by rw [nI_clamp (show i < 2 ^ 31 by omega)]; simp only [nI_eq0 (show i < 2 ^ 31 by omega)] at c39; simp [vp0, c39]; try rfl) hk_i)
    · skip
      refine zj_iload4 (n := 26) rfl dX10_lossOf_24 ?_
      refine zj_bipush (v := 10) (n := 28) rfl dX10_lossOf_26 (by decide) ?_
      refine zj_icmp_gt (n := 31) (tgt := 56) rfl dX10_lossOf_28 (by decide) (fun c28 => ?_) (fun c28 => absurd c28 (fun q => q (by decide)))
      refine zj_iconst_0 (n := 57) rfl dX10_lossOf_56 ?_
      refine zj_istore4 (n := 59) rfl dX10_lossOf_57 rfl (Nat.le_of_ble_eq_true rfl) ?_
      refine zFor_rule (P := fun i2 (s2 : Unit) => zJ yX10_lossOf cX10_lossOf 8 (some .int) rX10_lossOf Q X 0 0 59 [some (.ref 118), some (.int (nI g)), some (.int (nI (vnav v d g))), some (.int (nI (gp v g 2))), some (.int (nI i2)), none, none, none] [] (M.1, vL2 v d g i2 M.2.1, M.2.2)) (n := vsh v g) (f := fun _ s => s) (s0 := ()) ?_ ?_
      · intro i2 s2 hi_i2 hk_i2
        have q2 := hW.risk hg i2 hi_i2
        have qh := ghol i2 hi_i2
        refine zj_iload4 (n := 61) rfl dX10_lossOf_59 ?_
        refine zj_aload0 (n := 62) rfl dX10_lossOf_61 ?_
        refine zj_iload1 (n := 63) rfl dX10_lossOf_62 ?_
        refine zj_callV1 (n := 66) (a' := 0) (b' := 0) rfl dX10_lossOf_63 zm_X10_70 (by decide) (by decide) rfl (Nat.le_of_ble_eq_true rfl) (Nat.le_of_ble_eq_true rfl) (Nat.le_of_ble_eq_true rfl) (Nat.le_of_ble_eq_true rfl) (jX10_shardsOf hA.ofL g10 ?_)
        refine zj_icmp_ge (n := 69) (tgt := 164) rfl dX10_lossOf_66 (by decide) (fun c66 => absurd c66 (nI_ge hi_i2 (by omega))) (fun c66 => ?_)
        refine zj_aload0 (n := 70) rfl dX10_lossOf_69 ?_
        refine zj_iload1 (n := 71) rfl dX10_lossOf_70 ?_
        refine zj_iload4 (n := 73) rfl dX10_lossOf_71 ?_
        refine zj_callV2 (n := 76) (a' := 0) (b' := 0) rfl dX10_lossOf_73 zm_X10_106 (by decide) (by decide) rfl (Nat.le_of_ble_eq_true rfl) (Nat.le_of_ble_eq_true rfl) (Nat.le_of_ble_eq_true rfl) (Nat.le_of_ble_eq_true rfl) (jX10_isAvailable (d := d) hA.ofL hd h231 g10 (by omega) (ghol i2 hi_i2) (gst i2 hi_i2) ?_)
        refine zj_if_ne (n := 79) (tgt := 82) rfl dX10_lossOf_76 (by decide) (fun c76 => ?_) (fun c76 => ?_)
        · refine zj_aload0 (n := 83) rfl dX10_lossOf_82 ?_
          refine zj_aload0 (n := 84) rfl dX10_lossOf_83 ?_
          refine zj_iload1 (n := 85) rfl dX10_lossOf_84 ?_
          refine zj_iload4 (n := 87) rfl dX10_lossOf_85 ?_
          refine zj_callV2 (n := 90) (a' := 0) (b' := 0) rfl dX10_lossOf_87 zm_X10_74 (by decide) (by decide) rfl (Nat.le_of_ble_eq_true rfl) (Nat.le_of_ble_eq_true rfl) (Nat.le_of_ble_eq_true rfl) (Nat.le_of_ble_eq_true rfl) (jX10_holder hA.ofL g10 (by omega) ?_)
          refine zj_iconst_2 (n := 91) rfl dX10_lossOf_90 ?_
          refine zj_callV2 (n := 94) (a' := 0) (b' := 0) rfl dX10_lossOf_91 zm_X10_77 (by decide) (by decide) rfl (Nat.le_of_ble_eq_true rfl) (Nat.le_of_ble_eq_true rfl) (Nat.le_of_ble_eq_true rfl) (Nat.le_of_ble_eq_true rfl) (jX10_nodeValue (c := 2) hA.ofL (by omega) ?_)
          refine zj_i2l (n := 95) rfl dX10_lossOf_94 ?_
          refine zj_lstore5 (n := 97) rfl dX10_lossOf_95 rfl (Nat.le_of_ble_eq_true rfl) ?_
          refine zj_iload2 (n := 98) rfl dX10_lossOf_97 ?_
          refine zj_istore7 (n := 100) rfl dX10_lossOf_98 rfl (Nat.le_of_ble_eq_true rfl) ?_
          refine zj_sub (l' := [some (.ref 118), some (.int (nI g)), some (.int (nI (vnav v d g))), some (.int (nI (gp v g 2))), some (.int (nI i2)), some (.long (lN (nd v (hol v g i2) 2))), none, some (.int (nI (vnav v d g) - nI 0))]) (by simp only [zLe, eq_self, Value.int.injEq, Value.long.injEq, and_true, true_and]; exact ⟨(nI_l (show nd v (hol v g i2) 2 < 2 ^ 31 by omega)).symm, by rw [pk_sub (Nat.zero_le _)]; rfl⟩) ?_
          refine zFor_rule (P := fun i3 (s3 : Nat → Nat → Int64) => zJ yX10_lossOf cX10_lossOf 8 (some .int) rX10_lossOf Q X 0 0 100 [some (.ref 118), some (.int (nI g)), some (.int (nI (vnav v d g))), some (.int (nI (gp v g 2))), some (.int (nI i2)), some (.long (lN (nd v (hol v g i2) 2))), none, some (.int (nI (vnav v d g) - nI i3))] [] (M.1, s3, M.2.2)) (n := vnav v d g + 1) (f := zstepL 121 (vnav v d g) (lN (nd v (hol v g i2) 2))) (s0 := vL2 v d g i2 M.2.1) ?_ ?_
          · intro i3 s3 hi_i3 hk_i3
            have e3 : nI (vnav v d g) - nI i3 = nI (vnav v d g - i3) := pk_sub (by omega)
            refine zj_iload7 (n := 102) rfl dX10_lossOf_100 ?_
            refine zj_if_lt (n := 105) (tgt := 158) rfl dX10_lossOf_102 (by decide) (fun c102 => absurd c102 (by rw [e3]; exact nI_lt0 (by omega))) (fun c102 => ?_)
            refine zj_aload0 (n := 106) rfl dX10_lossOf_105 ?_
            refine zj_getr (n := 109) (q := 121) rfl dX10_lossOf_106 zf_X10_27 rfl (by decide) (by decide) rfl ?_
            refine zj_iload7 (n := 111) rfl dX10_lossOf_109 ?_
            refine zj_aload0 (n := 112) rfl dX10_lossOf_111 ?_
            refine zj_getr (n := 115) (q := 121) rfl dX10_lossOf_112 zf_X10_27 rfl (by decide) (by decide) rfl ?_
            refine zj_iload7 (n := 117) rfl dX10_lossOf_115 ?_
            refine zj_laload (n := 118) rfl dX10_lossOf_117 (by decide) (by decide) (by rw [show zLen 121 = 11 from rfl]; exact zin_at (j := vnav v d g - i3) (by exact e3) (by omega) (by decide)) ?_
            refine zj_ldc2 (n := 121) rfl dX10_lossOf_118 zc_X10_128 ?_
            refine zj_lload5 (n := 123) rfl dX10_lossOf_121 ?_
            refine zj_lsub (n := 124) rfl dX10_lossOf_123 ?_
            refine zj_lmul (n := 125) rfl dX10_lossOf_124 ?_
            refine zj_iload7 (n := 127) rfl dX10_lossOf_125 ?_
            refine zj_if_ne (n := 130) (tgt := 134) rfl dX10_lossOf_127 (by decide) (fun c127 => ?_) (fun c127 => ?_)
            · refine zj_aload0 (n := 135) rfl dX10_lossOf_134 ?_
              refine zj_getr (n := 138) (q := 121) rfl dX10_lossOf_135 zf_X10_27 rfl (by decide) (by decide) rfl ?_
              refine zj_iload7 (n := 140) rfl dX10_lossOf_138 ?_
              refine zj_iconst_1 (n := 141) rfl dX10_lossOf_140 ?_
              refine zj_isub (n := 142) rfl dX10_lossOf_141 ?_
              refine zj_laload (n := 143) rfl dX10_lossOf_142 (by decide) (by decide) (by have z : vnav v d g - i3 ≠ 0 := fun q => c127 (by rw [e3, q]; rfl); rw [show zLen 121 = 11 from rfl]; exact zin_at (j := vnav v d g - i3 - 1) (by rw [e3]; exact pk_sub (b := 1) (by omega)) (by omega) (by decide)) ?_
              refine zj_lload5 (n := 145) rfl dX10_lossOf_143 ?_
              refine zj_lmul (n := 146) rfl dX10_lossOf_145 ?_
              refine zj_ladd (n := 147) rfl dX10_lossOf_146 ?_
              refine zj_ldc2 (n := 150) rfl dX10_lossOf_147 zc_X10_128 ?_
              refine zj_ldiv (n := 151) rfl dX10_lossOf_150 (by decide) ?_
              refine zj_lastore (n := 152) rfl dX10_lossOf_151 (by decide) (by decide) (by rw [show zLen 121 = 11 from rfl]; exact zin_at (j := vnav v d g - i3) (by exact e3) (by omega) (by decide)) ?_
              refine zj_iinc7 (n := 155) rfl dX10_lossOf_152 rfl (zi_m1 _) (Nat.le_of_ble_eq_true rfl) ?_
              refine zj_goto (tgt := 100) dX10_lossOf_155 (by decide) ?_
              refine zj_sub (l' := [some (.ref 118), some (.int (nI g)), some (.int (nI (vnav v d g))), some (.int (nI (gp v g 2))), some (.int (nI i2)), some (.long (lN (nd v (hol v g i2) 2))), none, some (.int (nI (vnav v d g) - nI (i3 + 1)))]) (by simp only [zLe, eq_self, Value.int.injEq, and_true, true_and]; rw [← nI_1]; generalize nI (vnav v d g) = z; generalize nI i3 = z2; apply Int32.toBitVec_inj.mp; show z.toBitVec - (z2.toBitVec + 1#32) = z.toBitVec - z2.toBitVec + -1#32; bv_omega) (zj_eq rfl rfl ?_ hk_i3)
              rw [e3] at c127 ⊢
              rw [nI_clamp (show vnav v d g - i3 < 2 ^ 31 by omega)]
              simp only [nI_eq0 (show vnav v d g - i3 < 2 ^ 31 by omega)] at c127
              unfold zstepL
              simp only [c127, if_true, if_false]
              try rw [show nI (vnav v d g - i3) - 1 = nI (vnav v d g - i3 - 1) from pk_sub (b := 1) (by omega), nI_clamp (show vnav v d g - i3 - 1 < 2 ^ 31 by omega)]
              try rfl
            · refine zj_lconst_0 (n := 131) rfl dX10_lossOf_130 ?_
              refine zj_goto (tgt := 146) dX10_lossOf_131 (by decide) ?_
              refine zj_ladd (n := 147) rfl dX10_lossOf_146 ?_
              refine zj_ldc2 (n := 150) rfl dX10_lossOf_147 zc_X10_128 ?_
              refine zj_ldiv (n := 151) rfl dX10_lossOf_150 (by decide) ?_
              refine zj_lastore (n := 152) rfl dX10_lossOf_151 (by decide) (by decide) (by rw [show zLen 121 = 11 from rfl]; exact zin_at (j := vnav v d g - i3) (by exact e3) (by omega) (by decide)) ?_
              refine zj_iinc7 (n := 155) rfl dX10_lossOf_152 rfl (zi_m1 _) (Nat.le_of_ble_eq_true rfl) ?_
              refine zj_goto (tgt := 100) dX10_lossOf_155 (by decide) ?_
              refine zj_sub (l' := [some (.ref 118), some (.int (nI g)), some (.int (nI (vnav v d g))), some (.int (nI (gp v g 2))), some (.int (nI i2)), some (.long (lN (nd v (hol v g i2) 2))), none, some (.int (nI (vnav v d g) - nI (i3 + 1)))]) (by simp only [zLe, eq_self, Value.int.injEq, and_true, true_and]; rw [← nI_1]; generalize nI (vnav v d g) = z; generalize nI i3 = z2; apply Int32.toBitVec_inj.mp; show z.toBitVec - (z2.toBitVec + 1#32) = z.toBitVec - z2.toBitVec + -1#32; bv_omega) (zj_eq rfl rfl ?_ hk_i3)
              rw [e3] at c127 ⊢
              rw [nI_clamp (show vnav v d g - i3 < 2 ^ 31 by omega)]
              simp only [nI_eq0 (show vnav v d g - i3 < 2 ^ 31 by omega)] at c127
              unfold zstepL
              simp only [c127, if_true, if_false]
              try rw [show nI (vnav v d g - i3) - 1 = nI (vnav v d g - i3 - 1) from pk_sub (b := 1) (by omega), nI_clamp (show vnav v d g - i3 - 1 < 2 ^ 31 by omega)]
              try rfl
          · skip
            refine zj_iload7 (n := 102) rfl dX10_lossOf_100 ?_
            refine zj_if_lt (n := 105) (tgt := 158) rfl dX10_lossOf_102 (by decide) (fun c102 => ?_) (fun c102 => absurd c102 (fun q => q (by rw [show nI (vnav v d g) - nI (vnav v d g + 1) = -1 from by rw [← nI_1]; generalize nI (vnav v d g) = z; apply Int32.toBitVec_inj.mp; show z.toBitVec - (z.toBitVec + 1#32) = -1#32; bv_omega]; decide)))
            refine zj_iinc4 (n := 161) rfl dX10_lossOf_158 rfl (zi_1 _) (Nat.le_of_ble_eq_true rfl) ?_
            refine zj_goto (tgt := 59) dX10_lossOf_161 (by decide) ?_
            simp only [zb_eq0, Bool.not_eq_false] at c76
            refine zj_sub (by simp only [zLe, eq_self, Value.int.injEq, and_true, true_and]; exact (nI_1 i2).symm) (zj_eq rfl rfl (by rw [vL2_succ, c76]; rfl) hk_i2)
        · refine zj_goto (tgt := 158) dX10_lossOf_79 (by decide) ?_
          refine zj_iinc4 (n := 161) rfl dX10_lossOf_158 rfl (zi_1 _) (Nat.le_of_ble_eq_true rfl) ?_
          refine zj_goto (tgt := 59) dX10_lossOf_161 (by decide) ?_
          simp only [zb_eq0, Bool.not_eq_false] at c76
          refine zj_sub (by simp only [zLe, eq_self, Value.int.injEq, and_true, true_and]; exact (nI_1 i2).symm) (zj_eq rfl rfl (by rw [vL2_succ, c76]; rfl) hk_i2)
      · skip
        refine zj_iload4 (n := 61) rfl dX10_lossOf_59 ?_
        refine zj_aload0 (n := 62) rfl dX10_lossOf_61 ?_
        refine zj_iload1 (n := 63) rfl dX10_lossOf_62 ?_
        refine zj_callV1 (n := 66) (a' := 0) (b' := 0) rfl dX10_lossOf_63 zm_X10_70 (by decide) (by decide) rfl (Nat.le_of_ble_eq_true rfl) (Nat.le_of_ble_eq_true rfl) (Nat.le_of_ble_eq_true rfl) (Nat.le_of_ble_eq_true rfl) (jX10_shardsOf hA.ofL g10 ?_)
        refine zj_icmp_ge (n := 69) (tgt := 164) rfl dX10_lossOf_66 (by decide) (fun c66 => ?_) (fun c66 => absurd c66 (fun q => q (nI_le (Nat.le_refl _) (by omega))))
        have hlo : vlost v d g = false := by
          unfold vlost
          simp only [decide_eq_false_iff_not]
          intro q
          exact absurd c15 (nI_ge (b := gp v g 2) q (by omega))
        obtain ⟨hrow, hoff⟩ := vL2_row hW (d := d) hg (Nat.le_refl (vsh v g)) (L := M.2.1)
        have hge : gp v g 2 ≤ vnav v d g := by unfold vlost at hlo; simpa using hlo
        refine zj_lconst_0 (n := 165) rfl dX10_lossOf_164 ?_
        refine zj_lstore4 (n := 167) rfl dX10_lossOf_165 rfl (Nat.le_of_ble_eq_true rfl) ?_
        refine zj_iload2 (n := 168) rfl dX10_lossOf_167 ?_
        refine zj_iload3 (n := 169) rfl dX10_lossOf_168 ?_
        refine zj_isub (n := 170) rfl dX10_lossOf_169 ?_
        refine zj_iconst_1 (n := 171) rfl dX10_lossOf_170 ?_
        refine zj_iadd (n := 172) rfl dX10_lossOf_171 ?_
        refine zj_istore6 (n := 174) rfl dX10_lossOf_172 rfl (Nat.le_of_ble_eq_true rfl) ?_
        refine zj_eq (by rw [show nI (vnav v d g) - nI (gp v g 2) + 1 = nI (vnav v d g - gp v g 2 + 1 + 0) from by rw [pk_sub (by omega), nI_1]]) rfl rfl ?_
        refine zFor_rule (P := fun i4 (s4 : Nat) => zJ yX10_lossOf cX10_lossOf 8 (some .int) rX10_lossOf Q X 0 0 174 [some (.ref 118), some (.int (nI g)), some (.int (nI (vnav v d g))), some (.int (nI (gp v g 2))), some (.long (lN s4)), none, some (.int (nI (vnav v d g - gp v g 2 + 1 + i4))), none] [] (M.1, vL2 v d g (vsh v g) M.2.1, M.2.2)) (n := gp v g 2) (f := fun i a => a + vprob v d g (vnav v d g - gp v g 2 + 1 + i)) (s0 := 0) ?_ ?_
        · intro i4 s4 hi_i4 hk_i4
          refine zj_iload6 (n := 176) rfl dX10_lossOf_174 ?_
          refine zj_iload2 (n := 177) rfl dX10_lossOf_176 ?_
          refine zj_icmp_gt (n := 180) (tgt := 198) rfl dX10_lossOf_177 (by decide) (fun c177 => absurd c177 (fun e => by have := (nI_ltI (by omega) (by omega)).mp e; omega)) (fun c177 => ?_)
          refine zj_lload4 (n := 182) rfl dX10_lossOf_180 ?_
          refine zj_aload0 (n := 183) rfl dX10_lossOf_182 ?_
          refine zj_getr (n := 186) (q := 121) rfl dX10_lossOf_183 zf_X10_27 rfl (by decide) (by decide) rfl ?_
          refine zj_iload6 (n := 188) rfl dX10_lossOf_186 ?_
          refine zj_laload (n := 189) rfl dX10_lossOf_188 (by decide) (by decide) (by rw [show zLen 121 = 11 from rfl]; exact zin_at (j := vnav v d g - gp v g 2 + 1 + i4) (by rfl) (by omega) (by decide)) ?_
          refine zj_ladd (n := 190) rfl dX10_lossOf_189 ?_
          refine zj_lstore4 (n := 192) rfl dX10_lossOf_190 rfl (Nat.le_of_ble_eq_true rfl) ?_
          refine zj_iinc6 (n := 195) rfl dX10_lossOf_192 rfl (zi_1 _) (Nat.le_of_ble_eq_true rfl) ?_
          refine zj_goto (tgt := 174) dX10_lossOf_195 (by decide) ?_
          refine zj_sub (by simp only [zLe, eq_self, Value.int.injEq, Value.long.injEq, and_true, true_and]; exact ⟨by rw [nI_clamp (by omega), hrow _ (by omega), lN_add]; rfl, by rw [nI_1]; rfl⟩) hk_i4
        · skip
          refine zj_iload6 (n := 176) rfl dX10_lossOf_174 ?_
          refine zj_iload2 (n := 177) rfl dX10_lossOf_176 ?_
          refine zj_icmp_gt (n := 180) (tgt := 198) rfl dX10_lossOf_177 (by decide) (fun c177 => ?_) (fun c177 => absurd c177 (fun q => q (nI_lt (by omega) (by omega))))
          refine zj_lload4 (n := 200) rfl dX10_lossOf_198 ?_
          refine zj_l2i (n := 201) rfl dX10_lossOf_200 ?_
          exact zj_ireturn dX10_lossOf_201 rfl rfl (zQi (h _ hoff) (by rw [lN_i]; unfold vloss; rw [hlo]; rfl))
  · refine zj_ldc (n := 20) rfl dX10_lossOf_18 zc_X10_125 ?_
    exact zj_ireturn dX10_lossOf_20 rfl rfl (by have e : vloss v d g = 1000000000 := (by unfold vloss; rw [if_pos (by unfold vlost; exact decide_eq_true (Nat.lt_of_not_le (fun q => c15 (nI_le q (by omega)))))]); rw [e] at h; exact h M.2.1 (fun _ _ => rfl))
