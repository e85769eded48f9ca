/-! THE CLASS'S AUCTIONS -/
def zAi (u : Nat) : Prop := u = 105 ∨ u = 111
theorem zAi.lt {u : Nat} (h : zAi u) : u < 133 := by rcases h with rfl | rfl <;> decide
theorem zAi.ty {u : Nat} (h : zAi u) : zTy u = 0 := by rcases h with rfl | rfl <;> decide
theorem zAi.od {u : Nat} (h : zAi u) : zOd (u + 1) := by rcases h with rfl | rfl; exact Or.inl rfl; exact Or.inr rfl
theorem zAi.tb {u : Nat} (h : zAi u) : zTb (u + 3) := by rcases h with rfl | rfl <;> exact ⟨by decide, by decide, by decide, by decide⟩
theorem zAi.lt3 {u : Nat} (h : zAi u) : u + 3 < 133 := h.tb.1
theorem zAi.ty3 {u : Nat} (h : zAi u) : zTy (u + 3) = 6 := h.tb.2.1
theorem zAi.lt1 {u : Nat} (h : zAi u) : u + 1 < 133 := h.od.lt
theorem zAi.ty1 {u : Nat} (h : zAi u) : zTy (u + 1) = 3 := h.od.ty
theorem zAi.far {u r : Nat} (h : zAi u) (hi : zRi r) : r + 8 < u := by have := hi.le; rcases h with rfl | rfl <;> omega
def zAf (u : Nat) (M M' : zM) : Prop := (∀ c, c ≠ u → c ≠ u + 3 → c ≠ u + 4 → M'.1 c = M.1 c) ∧ (∀ c, c ≠ u + 2 → M'.2.1 c = M.2.1 c) ∧ M'.2.2 = M.2.2
theorem zAf.rf {u : Nat} {M : zM} : zAf u M M := ⟨fun _ _ _ _ => rfl, fun _ _ => rfl, rfl⟩
theorem zAf.tr {u : Nat} {M M1 M2 : zM} (h : zAf u M M1) (h2 : zAf u M1 M2) : zAf u M M2 := ⟨fun c a1 a2 a3 => (h2.1 c a1 a2 a3).trans (h.1 c a1 a2 a3), fun c a => (h2.2.1 c a).trans (h.2.1 c a), h2.2.2.trans h.2.2⟩
theorem zAf.ofL {u : Nat} {M : zM} {L : Nat → Nat → Int64} (h : ∀ c, c ≠ u + 2 → L c = M.2.1 c) : zAf u M (M.1, L, M.2.2) := ⟨fun _ _ _ _ => rfl, h, rfl⟩
theorem zAf.put {u k j : Nat} {M M1 : zM} {x : Int32} (h : zAf u M M1) (hk : k = u ∨ k = u + 3 ∨ k = u + 4) : zAf u M (zU M1.1 k j x, M1.2) := ⟨fun c a1 a2 a3 => by show zU M1.1 k j x c = _; rw [zU_off (by omega)]; exact h.1 c a1 a2 a3, h.2.1, h.2.2⟩
theorem zAf.tab {u : Nat} {M M1 M2 : zM} (h : zAf u M M1) (h2 : ∀ c, c ≠ u + 3 → c ≠ u + 3 + 1 → M2.1 c = M1.1 c) (h3 : M2.2 = M1.2) : zAf u M M2 := ⟨fun c a1 a2 a3 => (h2 c a2 a3).trans (h.1 c a1 a2 a3), fun c a => by rw [h3]; exact h.2.1 c a, by rw [h3]; exact h.2.2⟩
theorem zAf.rg {u r : Nat} {M M' : zM} {v : zV} (h : zAf u M M') (hu : zAi u) (hR : zRg M r v) : zRg M' r v := hR.cg (fun a h1 h2 => by have := hu.far hR.i; exact h.1 a (by omega) (by omega) (by omega))
def zMb (M : zM) (u : Nat) (off : Nat → Nat) (s : zB) : Prop := zTN M (u + 3) 4 10 s.1 ∧ ∀ k, k < s.1 → M.1 (u + 4) (k * 4 + 0) = nI (s.2 k) ∧ M.1 (u + 4) (k * 4 + 1) = nI (off (s.2 k))
theorem zMb.lg {M : zM} {u : Nat} {off : Nat → Nat} {s : zB} {L : Nat → Nat → Int64} (h : zMb M u off s) : zMb (M.1, L, M.2.2) u off s := h
theorem zMb.cg {M M' : zM} {u : Nat} {off : Nat → Nat} {s : zB} (h : zMb M u off s) (h1 : M'.1 (u + 3) = M.1 (u + 3)) (h2 : ∀ k c, k < s.1 → c < 2 → M'.1 (u + 4) (k * 4 + c) = M.1 (u + 4) (k * 4 + c)) : zMb M' u off s := ⟨h.1.cg h1, fun k hk => by rw [h2 k 0 hk (by decide), h2 k 1 hk (by decide)]; exact h.2 k hk⟩
theorem jX0_offerOf {u r : Nat} {v : zV} {g : Nat} {Q : Option Value → zM → Prop} {X : String → zM → Prop} {M : zM} (hu : zAi u) (hR : zRg M r v) (hW : zWF v) (hg : g < v 8) (h : ∀ L, (∀ c, c ≠ u + 2 → L c = M.2.1 c) → Q (some (.int (nI (voffer v 0 g)))) (M.1, L, M.2.2)) : zJ yX0_offerOf cX0_offerOf 5 (some .int) rX0_offerOf Q X rX0_offerOf.cells rX0_offerOf.slots 0 (zEnt 5 [.ref u, .ref r, .int (nI g)]) [] M := by
  have h8 := hW.gN
  have hgr := hW.grp hg
  have hsh := (hW.sh hg).2
  have hvn := vnav_le (v := v) (d := 0) (g := g)
  have hg2 : v (268 + 23 * g + 2) ≤ 6 := hgr.2.2.2.1
  have hg5 : v (268 + 23 * g + 5) ≤ 9999 := hgr.2.2.2.2.2.2.2.2.2.1
  have hvl := vloss_le (v := v) (d := 0) (hW.risk hg)
  have hml := hW.offer (d := 0) hg
  have hml : v (268 + 23 * g + 5) * vloss v 0 g ≤ 9999 * 1000000000 := hml
  show zJ yX0_offerOf cX0_offerOf 5 (some .int) rX0_offerOf Q X 0 0 0 [some (.ref u), some (.ref r), some (.int (nI g)), none, none] [] M
  refine zj_aload1 (n := 1) rfl dX0_offerOf_0 ?_
  refine zj_getr (n := 4) (q := r + 5) rfl dX0_offerOf_1 zf_X0_30 rfl hR.i.lt hR.i.ty rfl ?_
  refine zj_iload2 (n := 5) rfl dX0_offerOf_4 ?_
  refine zj_iconstN_5 (n := 6) rfl dX0_offerOf_5 ?_
  refine zj_callV2 (n := 9) (a' := 0) (b' := 0) rfl dX0_offerOf_6 zm_X0_50 (by decide) (hR.i.ltc (c := 5) (by decide)) (by rw [(hR.i.ty1 (c := 5) (by decide))]; rfl) (Nat.le_of_ble_eq_true rfl) (Nat.le_of_ble_eq_true rfl) (Nat.le_of_ble_eq_true rfl) (Nat.le_of_ble_eq_true rfl) (jT_get hR.g.1 (by omega) (by decide) (hR.g.c (by omega) (by decide)) ?_)
  refine zj_i2lN (n := 10) rfl dX0_offerOf_9 (by omega) ?_
  refine zj_lstore3 (n := 11) rfl dX0_offerOf_10 rfl (Nat.le_of_ble_eq_true rfl) ?_
  refine zj_ldc2N (v := 9999) (n := 14) rfl dX0_offerOf_11 zc_X0_61 ?_
  refine zj_lload3 (n := 15) rfl dX0_offerOf_14 ?_
  refine zj_aload0 (n := 16) rfl dX0_offerOf_15 ?_
  refine zj_getr (n := 19) (q := u + 1) rfl dX0_offerOf_16 zf_X0_12 rfl hu.lt hu.ty rfl ?_
  refine zj_aload1 (n := 20) rfl dX0_offerOf_19 ?_
  refine zj_iload2 (n := 21) rfl dX0_offerOf_20 ?_
  refine zj_iconstN_0 (n := 22) rfl dX0_offerOf_21 ?_
  refine zj_callV3 (n := 25) (a' := 0) (b' := 0) rfl dX0_offerOf_22 zm_X0_63 (by decide) hu.lt1 (by rw [hu.ty1]; rfl) (Nat.le_of_ble_eq_true rfl) (Nat.le_of_ble_eq_true rfl) (Nat.le_of_ble_eq_true rfl) (Nat.le_of_ble_eq_true rfl) (jX4_lossOf hu.od hR hW hg (by decide) ?_)
  intro L hL
  refine zj_i2lN (n := 26) rfl dX0_offerOf_25 (by omega) ?_
  refine zj_lmulN (n := 27) rfl dX0_offerOf_26 ?_
  refine zj_ldc2N (v := 1000000) (n := 30) rfl dX0_offerOf_27 zc_X0_67 ?_
  refine zj_ldivN (n := 31) rfl dX0_offerOf_30 (by omega) (by omega) (by omega) ?_
  refine zj_lminN (n := 34) rfl dX0_offerOf_31 zm_X0_69 (by decide) (Nat.le_of_ble_eq_true rfl) (by first | omega | exact Nat.lt_of_le_of_lt (Nat.div_le_self _ _) (by omega)) (by first | omega | exact Nat.lt_of_le_of_lt (Nat.div_le_self _ _) (by omega)) ?_
  refine zj_l2iN (n := 35) rfl dX0_offerOf_34 ?_
  exact zj_ireturn dX0_offerOf_35 rfl rfl (h L hL)
theorem vneed_dam {v : zV} {g : Nat} (h : 0 < vneed v 0 g) : vdam v 0 g = true := by
  cases e : vdam v 0 g with
  | true => rfl
  | false =>
    have h1 := vmiss_0.mpr e
    have h3 : zCnt (vsh v g) (fun s => !vav v 0 g s) = 0 := by
      have key : ∀ (n : Nat) (p : Nat → Bool), (∀ i, i < n → p i = false) → zCnt n p = 0 := by
        intro n p
        induction n with
        | zero => intro _; rfl
        | succ n ih => intro q; rw [zCnt_succ, q n (by omega), if_neg (by decide)]; exact ih (fun i hi => q i (by omega))
      exact key _ _ (zMask_ne0.mp h1)
    have h2 := zCnt_not (vsh v g) (fun s => vav v 0 g s)
    have h4 : vnav v 0 g = zCnt (vsh v g) (fun s => vav v 0 g s) := rfl
    unfold vneed at h
    rw [show vsh v g - vnav v 0 g = 0 by omega, Nat.zero_mul] at h
    omega
theorem jX0_bidOf {u r : Nat} {v : zV} {g : Nat} {Q : Option Value → zM → Prop} {X : String → zM → Prop} {M : zM} (hu : zAi u) (hR : zRg M r v) (hW : zWF v) (hg : g < v 8) (h : ∀ L, (∀ c, c ≠ u + 2 → L c = M.2.1 c) → Q (some (.int (nI (if vbid v 0 g then voffer v 0 g else 0)))) (M.1, L, M.2.2)) : zJ yX0_bidOf cX0_bidOf 5 (some .int) rX0_bidOf Q X rX0_bidOf.cells rX0_bidOf.slots 0 (zEnt 5 [.ref u, .ref r, .int (nI g)]) [] M := by
  have h8 := hW.gN
  have hgr := hW.grp hg
  have hsh := (hW.sh hg).2
  have hvn := vnav_le (v := v) (d := 0) (g := g)
  have hg2 : v (268 + 23 * g + 2) ≤ 6 := hgr.2.2.2.1
  have hg5 : v (268 + 23 * g + 5) ≤ 9999 := hgr.2.2.2.2.2.2.2.2.2.1
  have hnl := (vneed_le hW (d := 0) hg).1
  have hvo := voffer_le v 0 g
  have hv2 := hW.2.2.1
  show zJ yX0_bidOf cX0_bidOf 5 (some .int) rX0_bidOf Q X 0 0 0 [some (.ref u), some (.ref r), some (.int (nI g)), none, none] [] M
  refine zj_aload1 (n := 1) rfl dX0_bidOf_0 ?_
  refine zj_iload2 (n := 2) rfl dX0_bidOf_1 ?_
  refine zj_callV1 (n := 5) (a' := 0) (b' := 0) rfl dX0_bidOf_2 zm_X0_75 (by decide) hR.i.lt (by rw [hR.i.ty]; rfl) (Nat.le_of_ble_eq_true rfl) (Nat.le_of_ble_eq_true rfl) (Nat.le_of_ble_eq_true rfl) (Nat.le_of_ble_eq_true rfl) (jX6_needOf hR hW hg ?_)
  refine zj_ifN_le (n := 8) (tgt := 21) rfl dX0_bidOf_5 (by decide) (by omega) (fun c5 => ?_) (fun c5 => ?_)
  · refine zj_iconstN_0 (n := 22) rfl dX0_bidOf_21 ?_
    refine zj_istore3 (n := 23) rfl dX0_bidOf_22 rfl (Nat.le_of_ble_eq_true rfl) ?_
    refine zj_iload3 (n := 24) rfl dX0_bidOf_23 ?_
    refine zj_ifN_eq (n := 27) (tgt := 36) rfl dX0_bidOf_24 (by decide) (by omega) (fun _ => ?_) (fun h => absurd h (by decide))
    refine zj_iconstN_0 (n := 37) rfl dX0_bidOf_36 ?_
    refine zj_ireturn dX0_bidOf_37 rfl rfl ?_
    have e : vbid v 0 g = false := by unfold vbid; rw [c5]; simp
    rw [e] at h
    exact h M.2.1 (fun _ _ => rfl)
  · have hdm := vneed_dam c5
    refine zj_aload1 (n := 9) rfl dX0_bidOf_8 ?_
    refine zj_iload2 (n := 10) rfl dX0_bidOf_9 ?_
    refine zj_iconstN_0 (n := 11) rfl dX0_bidOf_10 ?_
    refine zj_callV2 (n := 14) (a' := 0) (b' := 0) rfl dX0_bidOf_11 zm_X0_79 (by decide) hR.i.lt (by rw [hR.i.ty]; rfl) (Nat.le_of_ble_eq_true rfl) (Nat.le_of_ble_eq_true rfl) (Nat.le_of_ble_eq_true rfl) (Nat.le_of_ble_eq_true rfl) (jX6_spareShards hR hW hg (by decide) ?_)
    refine zj_ifD_lt (n := 17) (tgt := 21) rfl dX0_bidOf_14 (by decide) (by omega) (by omega) (fun c14 => ?_) (fun c14 => ?_)
    · refine zj_iconstN_0 (n := 22) rfl dX0_bidOf_21 ?_
      refine zj_istore3 (n := 23) rfl dX0_bidOf_22 rfl (Nat.le_of_ble_eq_true rfl) ?_
      refine zj_iload3 (n := 24) rfl dX0_bidOf_23 ?_
      refine zj_ifN_eq (n := 27) (tgt := 36) rfl dX0_bidOf_24 (by decide) (by omega) (fun _ => ?_) (fun h => absurd h (by decide))
      refine zj_iconstN_0 (n := 37) rfl dX0_bidOf_36 ?_
      refine zj_ireturn dX0_bidOf_37 rfl rfl ?_
      have e : vbid v 0 g = false := by unfold vbid; rw [show vlost v 0 g = true from decide_eq_true (show vnav v 0 g < v (268 + 23 * g + 2) by omega)]; simp
      rw [e] at h
      exact h M.2.1 (fun _ _ => rfl)
    · refine zj_iconstN_1 (n := 18) rfl dX0_bidOf_17 ?_
      refine zj_goto (tgt := 22) dX0_bidOf_18 (by decide) ?_
      refine zj_istore3 (n := 23) rfl dX0_bidOf_22 rfl (Nat.le_of_ble_eq_true rfl) ?_
      refine zj_iload3 (n := 24) rfl dX0_bidOf_23 ?_
      refine zj_ifN_eq (n := 27) (tgt := 36) rfl dX0_bidOf_24 (by decide) (by omega) (fun h => absurd h (by decide)) (fun _ => ?_)
      refine zj_aload1 (n := 28) rfl dX0_bidOf_27 ?_
      refine zj_iload2 (n := 29) rfl dX0_bidOf_28 ?_
      refine zj_callV1 (n := 32) (a' := 0) (b' := 0) rfl dX0_bidOf_29 zm_X0_82 (by decide) hR.i.lt (by rw [hR.i.ty]; rfl) (Nat.le_of_ble_eq_true rfl) (Nat.le_of_ble_eq_true rfl) (Nat.le_of_ble_eq_true rfl) (Nat.le_of_ble_eq_true rfl) (jX6_targetOf hR hW hg ?_)
      refine zj_iconst_m1 (n := 33) rfl dX0_bidOf_32 ?_
      refine zj_icmpO_ne (n := 36) (tgt := 38) rfl dX0_bidOf_33 (by decide) (fun m hm => by cases e : vdam v 0 g with | true => (rw [e, if_pos rfl] at hm; have := (vpm_can hm).1; have := hW.nN; omega) | false => (rw [e, if_neg (by decide)] at hm; cases hm)) (fun m33 c33 => ?_) (fun c33 => ?_)
      · refine zj_aload0 (n := 39) rfl dX0_bidOf_38 ?_
        refine zj_aload1 (n := 40) rfl dX0_bidOf_39 ?_
        refine zj_iload2 (n := 41) rfl dX0_bidOf_40 ?_
        refine zj_callV2 (n := 44) (a' := 0) (b' := 0) rfl dX0_bidOf_41 zm_X0_85 (by decide) hu.lt (by rw [hu.ty]; rfl) (Nat.le_of_ble_eq_true rfl) (Nat.le_of_ble_eq_true rfl) (Nat.le_of_ble_eq_true rfl) (Nat.le_of_ble_eq_true rfl) (jX0_offerOf hu hR hW hg ?_)
        intro L hL
        refine zj_istore4 (n := 46) rfl dX0_bidOf_44 rfl (Nat.le_of_ble_eq_true rfl) ?_
        refine zj_iload4 (n := 48) rfl dX0_bidOf_46 ?_
        refine zj_aload1 (n := 49) rfl dX0_bidOf_48 ?_
        refine zj_getiN (e := v 2) (n := 52) rfl dX0_bidOf_49 zf_X0_88 rfl hR.i.lt hR.i.ty ((hR.cg (M' := (M.1, L, M.2.2)) (fun _ _ _ => rfl)).s 2 (by decide)) ?_
        refine zj_icmpN_lt (n := 55) (tgt := 60) rfl dX0_bidOf_52 (by decide) (by omega) (by omega) (fun c52 => ?_) (fun c52 => ?_)
        · refine zj_iconstN_0 (n := 61) rfl dX0_bidOf_60 ?_
          refine zj_ireturn dX0_bidOf_61 rfl rfl ?_
          have e : vbid v 0 g = false := by unfold vbid; rw [decide_eq_false (show ¬ max 1 (v 2) ≤ voffer v 0 g by omega)]; simp
          rw [e] at h
          exact h L hL
        · refine zj_iload4 (n := 57) rfl dX0_bidOf_55 ?_
          refine zj_goto (tgt := 61) dX0_bidOf_57 (by decide) ?_
          refine zj_ireturn dX0_bidOf_61 rfl rfl ?_
          rw [hdm, if_pos rfl] at c33
          rcases Nat.eq_zero_or_pos (voffer v 0 g) with q | q
          · have e : vbid v 0 g = false := by unfold vbid; rw [decide_eq_false (show ¬ max 1 (v 2) ≤ voffer v 0 g by omega)]; simp
            rw [e, if_neg (by decide)] at h
            rw [q]
            exact h L hL
          · have e : vbid v 0 g = true := by
              unfold vbid
              rw [hdm, show vlost v 0 g = false from decide_eq_false (show ¬ vnav v 0 g < v (268 + 23 * g + 2) by omega), decide_eq_false (show ¬ vneed v 0 g = 0 by omega), c33, decide_eq_true (show max 1 (v 2) ≤ voffer v 0 g by omega)]
              rfl
            rw [e, if_pos rfl] at h
            exact h L hL
      · refine zj_iconstN_0 (n := 37) rfl dX0_bidOf_36 ?_
        refine zj_ireturn dX0_bidOf_37 rfl rfl ?_
        have e : vbid v 0 g = false := by
          unfold vbid
          rw [hdm, if_pos rfl] at c33
          rw [c33]
          simp
        rw [e] at h
        exact h M.2.1 (fun _ _ => rfl)
theorem jX0_enter {u g : Nat} {off : Nat → Nat} {s : zB} {Q : Option Value → zM → Prop} {X : String → zM → Prop} {M : zM} (hu : zAi u) (hM : zMb M u off s) (hs : s.1 < 10) (ho : ∀ g, off g < 2 ^ 31) (hso : ∀ i j, i < j → j < s.1 → off (s.2 j) ≤ off (s.2 i)) (h : ∀ M', zAf u M M' → M'.1 u = M.1 u → zMb M' u off (vins off s g) → M'.2 = M.2 → Q none M') : zJ yX0_enter cX0_enter 5 none rX0_enter Q X rX0_enter.cells rX0_enter.slots 0 (zEnt 5 [.ref u, .int (nI g), .int (nI (off g))]) [] M := by
  have hpl := vpos_le (off := off) (s := s) (o := off g)
  have hog := ho g
  show zJ yX0_enter cX0_enter 5 none rX0_enter Q X 0 0 0 [some (.ref u), some (.int (nI g)), some (.int (nI (off g))), none, none] [] M
  refine zj_iconstN_0 (n := 1) rfl dX0_enter_0 ?_
  refine zj_istore3 (n := 2) rfl dX0_enter_1 rfl (Nat.le_of_ble_eq_true rfl) ?_
  refine zj_iconstN_0 (n := 3) rfl dX0_enter_2 ?_
  refine zj_istore4 (n := 5) rfl dX0_enter_3 rfl (Nat.le_of_ble_eq_true rfl) ?_
  refine zj_sub (l' := [some (.ref u), some (.int (nI g)), some (.int (nI (off g))), some (.int (nI (min 0 (vpos off s (off g))))), some (.int (nI 0))]) (by simp only [zLe, eq_self, and_true, true_and, Value.int.injEq]; rw [Nat.zero_min]) ?_
  refine zFor_rule (P := fun i (_ : Unit) => zJ yX0_enter cX0_enter 5 none rX0_enter Q X 0 0 5 [some (.ref u), some (.int (nI g)), some (.int (nI (off g))), some (.int (nI (min i (vpos off s (off g))))), some (.int (nI i))] [] M) (n := s.1) (f := fun _ s => s) (s0 := ()) ?_ ?_
  · intro i _ hi hk
    refine zj_iload4 (n := 7) rfl dX0_enter_5 ?_
    refine zj_aload0 (n := 8) rfl dX0_enter_7 ?_
    refine zj_getr (n := 11) (q := u + 3) rfl dX0_enter_8 zf_X0_23 rfl hu.lt hu.ty rfl ?_
    refine zj_getiN (e := s.1) (n := 14) rfl dX0_enter_11 zf_X0_35 rfl hu.lt3 hu.ty3 hM.1.2.2.2.1 ?_
    refine zj_icmpN_ge (n := 17) (tgt := 42) rfl dX0_enter_14 (by decide) (by omega) (by omega) (fun c14 => by omega) (fun c14 => ?_)
    refine zj_aload0 (n := 18) rfl dX0_enter_17 ?_
    refine zj_getr (n := 21) (q := u + 3) rfl dX0_enter_18 zf_X0_23 rfl hu.lt hu.ty rfl ?_
    refine zj_iload4 (n := 23) rfl dX0_enter_21 ?_
    refine zj_iconstN_1 (n := 24) rfl dX0_enter_23 ?_
    refine zj_callV2 (n := 27) (a' := 0) (b' := 0) rfl dX0_enter_24 zm_X0_50 (by decide) hu.lt3 (by rw [hu.ty3]; rfl) (Nat.le_of_ble_eq_true rfl) (Nat.le_of_ble_eq_true rfl) (Nat.le_of_ble_eq_true rfl) (Nat.le_of_ble_eq_true rfl) (jT_get (e := off (s.2 i)) hM.1 hi (by decide) (hM.2 i hi).2 ?_)
    refine zj_iload2 (n := 28) rfl dX0_enter_27 ?_
    refine zj_icmpN_lt (n := 31) (tgt := 36) rfl dX0_enter_28 (by decide) (ho _) (ho _) (fun c28 => ?_) (fun c28 => ?_)
    · refine zj_iincN4 (n := 39) rfl dX0_enter_36 rfl (Nat.le_of_ble_eq_true rfl) ?_
      refine zj_goto (tgt := 5) dX0_enter_39 (by decide) ?_
      have hp : vpos off s (off g) ≤ i := Nat.le_of_not_lt (fun q => by have := vpos_lo q; omega)
      rw [show min (i + 1) (vpos off s (off g)) = min i (vpos off s (off g)) by omega] at hk
      exact hk
    · refine zj_iload4 (n := 33) rfl dX0_enter_31 ?_
      refine zj_iconstN_1 (n := 34) rfl dX0_enter_33 ?_
      refine zj_iaddN (n := 35) rfl dX0_enter_34 ?_
      refine zj_istore3 (n := 36) rfl dX0_enter_35 rfl (Nat.le_of_ble_eq_true rfl) ?_
      refine zj_iincN4 (n := 39) rfl dX0_enter_36 rfl (Nat.le_of_ble_eq_true rfl) ?_
      refine zj_goto (tgt := 5) dX0_enter_39 (by decide) ?_
      have hp : i < vpos off s (off g) := Nat.lt_of_not_le (fun q => by have := vpos_hi hso q hi; omega)
      rw [show min (i + 1) (vpos off s (off g)) = i + 1 by omega] at hk
      exact hk
  · skip
    refine zj_iload4 (n := 7) rfl dX0_enter_5 ?_
    refine zj_aload0 (n := 8) rfl dX0_enter_7 ?_
    refine zj_getr (n := 11) (q := u + 3) rfl dX0_enter_8 zf_X0_23 rfl hu.lt hu.ty rfl ?_
    refine zj_getiN (e := s.1) (n := 14) rfl dX0_enter_11 zf_X0_35 rfl hu.lt3 hu.ty3 hM.1.2.2.2.1 ?_
    refine zj_icmpN_ge (n := 17) (tgt := 42) rfl dX0_enter_14 (by decide) (by omega) (by omega) (fun c14 => ?_) (fun c14 => by omega)
    rw [Nat.min_eq_right hpl]
    refine zj_aload0 (n := 43) rfl dX0_enter_42 ?_
    refine zj_getr (n := 46) (q := u + 3) rfl dX0_enter_43 zf_X0_23 rfl hu.lt hu.ty rfl ?_
    refine zj_iload3 (n := 47) rfl dX0_enter_46 ?_
    refine zj_callV1 (n := 50) (a' := 0) (b' := 0) rfl dX0_enter_47 zm_X0_91 (by decide) hu.lt3 (by rw [hu.ty3]; rfl) (Nat.le_of_ble_eq_true rfl) (Nat.le_of_ble_eq_true rfl) (Nat.le_of_ble_eq_true rfl) (Nat.le_of_ble_eq_true rfl) (jX7_insertRow hM.1 hpl hs ?_)
    intro M2 hF2 hL2 hT2 hz1 hz2 hz3
    refine zj_aload0 (n := 51) rfl dX0_enter_50 ?_
    refine zj_getr (n := 54) (q := u + 3) rfl dX0_enter_51 zf_X0_23 rfl hu.lt hu.ty rfl ?_
    refine zj_iload3 (n := 55) rfl dX0_enter_54 ?_
    refine zj_iconstN_0 (n := 56) rfl dX0_enter_55 ?_
    refine zj_iload1 (n := 57) rfl dX0_enter_56 ?_
    refine zj_callV3 (n := 60) (a' := 0) (b' := 0) rfl dX0_enter_57 zm_X0_57 (by decide) hu.lt3 (by rw [hu.ty3]; rfl) (Nat.le_of_ble_eq_true rfl) (Nat.le_of_ble_eq_true rfl) (Nat.le_of_ble_eq_true rfl) (Nat.le_of_ble_eq_true rfl) (jT_set hT2 (show vpos off s (off g) < s.1 + 1 by omega) (by decide) ?_)
    refine zj_aload0 (n := 61) rfl dX0_enter_60 ?_
    refine zj_getr (n := 64) (q := u + 3) rfl dX0_enter_61 zf_X0_23 rfl hu.lt hu.ty rfl ?_
    refine zj_iload3 (n := 65) rfl dX0_enter_64 ?_
    refine zj_iconstN_1 (n := 66) rfl dX0_enter_65 ?_
    refine zj_iload2 (n := 67) rfl dX0_enter_66 ?_
    refine zj_callV3 (n := 70) (a' := 0) (b' := 0) rfl dX0_enter_67 zm_X0_57 (by decide) hu.lt3 (by rw [hu.ty3]; rfl) (Nat.le_of_ble_eq_true rfl) (Nat.le_of_ble_eq_true rfl) (Nat.le_of_ble_eq_true rfl) (Nat.le_of_ble_eq_true rfl) (jT_set (hT2.cg (zU_off (by omega))) (show vpos off s (off g) < s.1 + 1 by omega) (by decide) ?_)
    exact zj_return dX0_enter_70 rfl (h _ (((zAf.rf.tab hF2 hL2).put (by omega)).put (by omega)) (by dsimp only; rw [zU_off (by omega), zU_off (by omega)]; exact hF2 u (by omega) (by omega)) ⟨hT2.cg (by dsimp only; rw [zU_off (by omega), zU_off (by omega)]), fun k hk => by
  have hk : k < s.1 + 1 := hk
  have e : ∀ c, c < 4 → (zU (zU M2.1 (u + 3 + 1) (vpos off s (off g) * 4 + 0) (nI g)) (u + 3 + 1) (vpos off s (off g) * 4 + 1) (nI (off g))) (u + 4) (k * 4 + c) = if k = vpos off s (off g) ∧ c = 0 then nI g else if k = vpos off s (off g) ∧ c = 1 then nI (off g) else M2.1 (u + 4) (k * 4 + c) := fun c hc => by
    by_cases q : k = vpos off s (off g) ∧ c = 1
    · rw [if_neg (by omega), if_pos q, q.1, q.2]; exact zU_eq
    · rw [zU_nj (by omega)]
      by_cases q2 : k = vpos off s (off g) ∧ c = 0
      · rw [if_pos q2, q2.1, q2.2]; exact zU_eq
      · rw [zU_nj (by omega), if_neg q2, if_neg q]
  dsimp only
  rw [e 0 (by decide), e 1 (by decide)]
  rcases Nat.lt_trichotomy k (vpos off s (off g)) with q | q | q
  · rw [if_neg (by omega), if_neg (by omega), if_neg (by omega), if_neg (by omega), vins_lo q]
    have a0 := hz1 (k * 4 + 0) (by omega)
    have a1 := hz1 (k * 4 + 1) (by omega)
    exact ⟨a0.trans (hM.2 k (by omega)).1, a1.trans (hM.2 k (by omega)).2⟩
  · rw [if_pos ⟨q, rfl⟩, if_neg (by omega), if_pos ⟨q, rfl⟩, q, vins_at]; exact ⟨rfl, rfl⟩
  · rw [if_neg (by omega), if_neg (by omega), if_neg (by omega), if_neg (by omega), vins_hi q]
    have a0 := hz3 ((k - 1) * 4 + 0) (by omega) (by omega)
    have a1 := hz3 ((k - 1) * 4 + 1) (by omega) (by omega)
    rw [show (k - 1) * 4 + 0 + 4 = k * 4 + 0 by omega] at a0
    rw [show (k - 1) * 4 + 1 + 4 = k * 4 + 1 by omega] at a1
    exact ⟨a0.trans (hM.2 (k - 1) (by omega)).1, a1.trans (hM.2 (k - 1) (by omega)).2⟩⟩ hL2)
