/-! THE CLASS'S AUCTIONS: a round settled -/
/-- what a round changes: the ring, and the auction's own cells -/
def zRv (r u : Nat) (M M' : zM) : Prop := (∀ a, (a < r ∨ r + 8 < a) → a ≠ u → a ≠ u + 3 → a ≠ u + 4 → M'.1 a = M.1 a) ∧ (∀ c, c ≠ u + 2 → M'.2.1 c = M.2.1 c) ∧ M'.2.2 = M.2.2
theorem zRv.rf {r u : Nat} {M : zM} : zRv r u M M := ⟨fun _ _ _ _ _ => rfl, fun _ _ => rfl, rfl⟩
theorem zRv.tr {r u : Nat} {M M1 M2 : zM} (h : zRv r u M M1) (h2 : zRv r u M1 M2) : zRv r u M M2 := ⟨fun a h1 h3 h4 h5 => (h2.1 a h1 h3 h4 h5).trans (h.1 a h1 h3 h4 h5), fun c hc => (h2.2.1 c hc).trans (h.2.1 c hc), h2.2.2.trans h.2.2⟩
theorem zRv.ofU {r u : Nat} {M M' : zM} (h : zRu r u M M') : zRv r u M M' := ⟨fun a h1 h2 _ _ => h.1 a h1 h2, fun c _ => by rw [h.2.2], by rw [h.2.2]⟩
theorem zRv.ofA {r u : Nat} {M M' : zM} (h : zAf u M M') : zRv r u M M' := ⟨fun a _ h2 h3 h4 => h.1 a h2 h3 h4, h.2.1, h.2.2⟩
theorem zRv.ringo {r u : Nat} {M M1 M2 : zM} (h : zRv r u M M1) (h2 : ∀ a, (a < r ∨ r + 8 < a) → M2.1 a = M1.1 a) (h3 : M2.2 = M1.2) : zRv r u M M2 := ⟨fun a h1 h4 h5 h6 => (h2 a h1).trans (h.1 a h1 h4 h5 h6), fun c hc => by rw [h3]; exact h.2.1 c hc, by rw [h3]; exact h.2.2⟩
theorem jX0_settle {u r : Nat} {v : zV} {Q : Option Value → zM → Prop} {X : String → zM → Prop} {M : zM} (hu : zAi u) (hR : zRg M r v) (hW : zWF v) (hH : zHd M u v) (h : ∀ M', zRv r u M M' → zRg M' r (vround v) → M'.1 u 3 = nI (vsold v) → M'.1 u 4 = nI (vrepd v) → M'.1 u 5 = nI (vpaid v) → zAo M' u → Q none M') : zJ yX0_settle cX0_settle 3 none rX0_settle Q X rX0_settle.cells rX0_settle.slots 0 (zEnt 3 [.ref u, .ref r]) [] M := by
  have h7 := hW.tN
  have hur := hu.far hR.i
  have hn10 := vord_le hW 0
  have hw0 := hW.1
  have hw1 := hW.2.1
  have hw4 := hW.2.2.2.2.1
  have hso := vsellk_sum (v := v) (d := 0) (vord v 0).1
  have hsd := vsold_eq (v := v)
  have hsl := (vsell_ok hW 0).1
  show zJ yX0_settle cX0_settle 3 none rX0_settle Q X 0 0 0 [some (.ref u), some (.ref r), none] [] M
  refine zj_iconstN_0 (n := 1) rfl dX0_settle_0 ?_
  refine zj_istore2 (n := 2) rfl dX0_settle_1 rfl (Nat.le_of_ble_eq_true rfl) ?_
  refine zFor_rule (P := fun t (_ : Unit) => ∀ M1, (∀ a, a ≠ r + 4 → M1.1 a = M.1 a) → M1.2 = M.2 → zRg M1 r (vgrow v t) → zJ yX0_settle cX0_settle 3 none rX0_settle Q X 0 0 2 [some (.ref u), some (.ref r), some (.int (nI t))] [] M1) (n := v 7) (f := fun _ s => s) (s0 := ()) ?_ ?_ M (fun _ _ => rfl) rfl hR
  · intro t _ ht hk M1 hF1 hL1 hR1
    have hWt := vgrow_wf hW (k := t) (by omega)
    refine zj_iload2 (n := 3) rfl dX0_settle_2 ?_
    refine zj_aload1 (n := 4) rfl dX0_settle_3 ?_
    refine zj_getr (n := 7) (q := r + 3) rfl dX0_settle_4 zf_X0_119 rfl hR.i.lt hR.i.ty rfl ?_
    refine zj_getiN (e := v 7) (n := 10) rfl dX0_settle_7 zf_X0_35 rfl (hR.i.ltc (c := 3) (by decide)) (hR.i.ty1 (c := 3) (by decide)) (hR1.t.1.2.2.2.1.trans (by rw [vgrow_far (by omega) (by omega)])) ?_
    refine zj_icmpN_ge (n := 13) (tgt := 33) rfl dX0_settle_10 (by decide) (by omega) (by omega) (fun c10 => by omega) (fun c10 => ?_)
    refine zj_aload1 (n := 14) rfl dX0_settle_13 ?_
    refine zj_getr (n := 17) (q := r + 3) rfl dX0_settle_14 zf_X0_119 rfl hR.i.lt hR.i.ty rfl ?_
    refine zj_iload2 (n := 18) rfl dX0_settle_17 ?_
    refine zj_iconstN_2 (n := 19) rfl dX0_settle_18 ?_
    refine zj_aload1 (n := 20) rfl dX0_settle_19 ?_
    refine zj_iload2 (n := 21) rfl dX0_settle_20 ?_
    refine zj_callV1 (n := 24) (a' := 0) (b' := 0) rfl dX0_settle_21 zm_X0_113 (by decide) hR.i.lt (by rw [hR.i.ty]; rfl) (Nat.le_of_ble_eq_true rfl) (Nat.le_of_ble_eq_true rfl) (Nat.le_of_ble_eq_true rfl) (Nat.le_of_ble_eq_true rfl) (jX6_grownPurse hR1 hWt (show t < vgrow v t 7 by rw [vgrow_far (by omega) (by omega)]; exact ht) ?_)
    refine zj_callV3 (n := 27) (a' := 0) (b' := 0) rfl dX0_settle_24 zm_X0_57 (by decide) (hR.i.ltc (c := 3) (by decide)) (by rw [(hR.i.ty1 (c := 3) (by decide))]; rfl) (Nat.le_of_ble_eq_true rfl) (Nat.le_of_ble_eq_true rfl) (Nat.le_of_ble_eq_true rfl) (Nat.le_of_ble_eq_true rfl) (jT_set hR1.t.1 (show t < vgrow v t 7 by rw [vgrow_far (by omega) (by omega)]; exact ht) (by decide) ?_)
    refine zj_iincN2 (n := 30) rfl dX0_settle_27 rfl (Nat.le_of_ble_eq_true rfl) ?_
    refine zj_goto (tgt := 2) dX0_settle_30 (by decide) ?_
    exact hk _ (fun a ha => by dsimp only; rw [zU_off (by omega)]; exact hF1 a ha) hL1 (hR1.setT (j := 2) hWt (show t < vgrow v t 7 by rw [vgrow_far (by omega) (by omega)]; exact ht) (by decide))
  · intro M1 hF1 hL1 hR1
    refine zj_iload2 (n := 3) rfl dX0_settle_2 ?_
    refine zj_aload1 (n := 4) rfl dX0_settle_3 ?_
    refine zj_getr (n := 7) (q := r + 3) rfl dX0_settle_4 zf_X0_119 rfl hR.i.lt hR.i.ty rfl ?_
    refine zj_getiN (e := v 7) (n := 10) rfl dX0_settle_7 zf_X0_35 rfl (hR.i.ltc (c := 3) (by decide)) (hR.i.ty1 (c := 3) (by decide)) (hR1.t.1.2.2.2.1.trans (by rw [vgrow_far (by omega) (by omega)])) ?_
    refine zj_icmpN_ge (n := 13) (tgt := 33) rfl dX0_settle_10 (by decide) (by omega) (by omega) (fun c10 => ?_) (fun c10 => by omega)
    refine zj_aload0 (n := 34) rfl dX0_settle_33 ?_
    refine zj_iconstN_0 (n := 35) rfl dX0_settle_34 ?_
    refine zj_puti (n := 38) rfl dX0_settle_35 zp_X0_122 rfl hu.lt hu.ty ?_
    -- 
    refine zj_aload0 (n := 39) rfl dX0_settle_38 ?_
    refine zj_iconstN_0 (n := 40) rfl dX0_settle_39 ?_
    refine zj_puti (n := 43) rfl dX0_settle_40 zp_X0_125 rfl hu.lt hu.ty ?_
    refine zj_iconstN_0 (n := 44) rfl dX0_settle_43 ?_
    refine zj_istore2 (n := 45) rfl dX0_settle_44 rfl (Nat.le_of_ble_eq_true rfl) ?_
    refine zFor_rule (P := fun k (_ : Unit) => ∀ M1, zRu r u M M1 → zRg M1 r (vcst v k) → M1.1 u 4 = nI (vfix v k).2 → M1.1 u 5 = nI (vsum (vpayd v 0) k) → zJ yX0_settle cX0_settle 3 none rX0_settle Q X 0 0 45 [some (.ref u), some (.ref r), some (.int (nI k))] [] M1) (n := (vord v 0).1) (f := fun _ s => s) (s0 := ()) ?_ ?_ _ ((((zRu.rf (u := u)).ring hur (fun a ha => hF1 a (by omega)) hL1).put (j := 5) (by omega)).put (j := 4) (by omega)) (((hR1.uput (j := 5) (x := nI 0) hur).uput (j := 4) (x := nI 0) hur).eqv (vcst_zero hW).symm) (by dsimp only; exact zU_eq) (by dsimp only; rw [zU_nj (by decide)]; exact zU_eq)
    · intro k _ hk9 hk M1 hF1 hR1 h41 h51
      have hH1 := hF1.hd hur hH
      obtain ⟨b1, b2, b3, b4, b5, b6, b7⟩ := vbidder hW hk9
      obtain ⟨hfx, -⟩ := vfix_ok hW k (Nat.le_of_lt hk9)
      have hWc : zWF (vcst v k) := vcst_wf hW (Nat.le_of_lt hk9) (Nat.le_of_lt hk9)
      have hbc : (vord v 0).2 k < vcst v k 8 := by unfold vcst; rw [vmix_s (by omega), hfx.low hW (by omega)]; exact b1
      have htc : vcst v k (268 + 23 * (vord v 0).2 k + 0) = vten v 0 k := by unfold vcst; rw [vmix_s (by omega)]; exact hfx.own hW hk9 (by decide)
      have ht7 : vten v 0 k < vcst v k 7 := by unfold vcst; rw [vmix_s (by omega), hfx.low hW (by omega)]; exact b2
      have hpc : vpayd v 0 k ≤ vcst v k (202 + 11 * vten v 0 k + 2) := by unfold vcst; rw [vmix_t (by omega)]; exact (vpays_can hW hk9).1
      obtain ⟨st1, st2⟩ := vcst_step hW hk9
      refine zj_iload2 (n := 46) rfl dX0_settle_45 ?_
      refine zj_aload0 (n := 47) rfl dX0_settle_46 ?_
      refine zj_getr (n := 50) (q := u + 3) rfl dX0_settle_47 zf_X0_23 rfl hu.lt hu.ty rfl ?_
      refine zj_getiN (e := (vord v 0).1) (n := 53) rfl dX0_settle_50 zf_X0_35 rfl hu.lt3 hu.ty3 hH1.1.1.2.2.2.1 ?_
      refine zj_icmpN_ge (n := 56) (tgt := 74) rfl dX0_settle_53 (by decide) (by omega) (by omega) (fun c53 => by omega) (fun c53 => ?_)
      refine zj_aload0 (n := 57) rfl dX0_settle_56 ?_
      refine zj_aload1 (n := 58) rfl dX0_settle_57 ?_
      refine zj_iload2 (n := 59) rfl dX0_settle_58 ?_
      refine zj_callV2 (n := 62) (a' := 0) (b' := 0) rfl dX0_settle_59 zm_X0_128 (by decide) hu.lt (by rw [hu.ty]; rfl) (Nat.le_of_ble_eq_true rfl) (Nat.le_of_ble_eq_true rfl) (Nat.le_of_ble_eq_true rfl) (Nat.le_of_ble_eq_true rfl) (jX0_charge hu hR1 hW hWc hH1 hk9 hbc htc ht7 hpc ?_)
      intro Mp hFp h4p h5p hRp
      have hHp := hFp.hd hur hH1
      refine zj_aload0 (n := 63) rfl dX0_settle_62 ?_
      refine zj_aload1 (n := 64) rfl dX0_settle_63 ?_
      refine zj_iload2 (n := 65) rfl dX0_settle_64 ?_
      refine zj_callV2 (n := 68) (a' := 0) (b' := 0) rfl dX0_settle_65 zm_X0_132 (by decide) hu.lt (by rw [hu.ty]; rfl) (Nat.le_of_ble_eq_true rfl) (Nat.le_of_ble_eq_true rfl) (Nat.le_of_ble_eq_true rfl) (Nat.le_of_ble_eq_true rfl) (jX0_repair (rep := (vfix v k).2) hu (hRp.eqv (vmix_pay (by omega))) hW (vcst_wf hW (Nat.le_of_lt hk9) hk9) hHp hk9 (show (vord v 0).2 k < vmix (vpay1 v (vpays v k) k) (vfix v k).1 8 by rw [vmix_s (by omega), hfx.low hW (by omega)]; exact b1) (vadd_cst_wf hW hk9 hk9).1 (h4p.trans h41) ?_)
      intro Mq hFq h5q h4q hRq
      refine zj_iincN2 (n := 71) rfl dX0_settle_68 rfl (Nat.le_of_ble_eq_true rfl) ?_
      refine zj_goto (tgt := 45) dX0_settle_71 (by decide) ?_
      refine hk Mq (hF1.tr (hFp.tr hFq)) ?_ ?_ (by rw [h5q, h5p, h51, nI_add, vsum_succ])
      · exact hRq.eqv st1
      · rw [h4q]
        refine congrArg nI ?_
        rw [vfix_succ]
        exact congrArg (fun x => (vfix v k).2 + x) st2
    · intro M1 hF1 hR1 h41 h51
      have hH1 := hF1.hd hur hH
      refine zj_iload2 (n := 46) rfl dX0_settle_45 ?_
      refine zj_aload0 (n := 47) rfl dX0_settle_46 ?_
      refine zj_getr (n := 50) (q := u + 3) rfl dX0_settle_47 zf_X0_23 rfl hu.lt hu.ty rfl ?_
      refine zj_getiN (e := (vord v 0).1) (n := 53) rfl dX0_settle_50 zf_X0_35 rfl hu.lt3 hu.ty3 hH1.1.1.2.2.2.1 ?_
      refine zj_icmpN_ge (n := 56) (tgt := 74) rfl dX0_settle_53 (by decide) (by omega) (by omega) (fun c53 => ?_) (fun c53 => by omega)
      have hWe : zWF (vcst v (vord v 0).1) := by rw [vcst_end hW]; exact (vfix_ok hW _ (Nat.le_refl _)).1.1
      have hH1 := hF1.hd hur hH
      obtain ⟨hfx, -⟩ := vfix_ok hW _ (Nat.le_refl _)
      have el0 : vcst v (vord v 0).1 0 = v 0 := by rw [vcst_end hW]; exact hfx.low hW (by decide)
      have el1 : vcst v (vord v 0).1 1 = v 1 := by rw [vcst_end hW]; exact hfx.low hW (by decide)
      have el4 : vcst v (vord v 0).1 4 = v 4 := by rw [vcst_end hW]; exact hfx.low hW (by decide)
      have el5 : vcst v (vord v 0).1 5 = v 5 := by rw [vcst_end hW]; exact hfx.low hW (by decide)
      have esl : v 0 + v 4 - vsold v = (vsell v 0).1 := by
        have e2 : vsell v 0 = vsellk v 0 (vord v 0).1 := rfl
        rw [← hsd, e2]; omega
      refine zj_aload1 (n := 75) rfl dX0_settle_74 ?_
      refine zj_aload1 (n := 76) rfl dX0_settle_75 ?_
      refine zj_callV0 (n := 79) (a' := 0) (b' := 0) rfl dX0_settle_76 zm_X0_106 (by decide) hR.i.lt (by rw [hR.i.ty]; rfl) (Nat.le_of_ble_eq_true rfl) (Nat.le_of_ble_eq_true rfl) (Nat.le_of_ble_eq_true rfl) (Nat.le_of_ble_eq_true rfl) (jX6_unitsAtHand hR1 hWe ?_)
      rw [el0, el4]
      refine zj_aload0 (n := 80) rfl dX0_settle_79 ?_
      refine zj_getiN (e := vsold v) (n := 83) rfl dX0_settle_80 zf_X0_95 rfl hu.lt hu.ty hH1.2.2.2.2 ?_
      refine zj_isubN (n := 84) rfl dX0_settle_83 (by omega) ?_
      refine zj_aload1 (n := 85) rfl dX0_settle_84 ?_
      refine zj_getiN (e := v 1) (n := 88) rfl dX0_settle_85 zf_X0_135 rfl hR.i.lt hR.i.ty ((hR1.s 1 (by decide)).trans (congrArg nI el1)) ?_
      refine zj_iminN (n := 91) rfl dX0_settle_88 zm_X0_104 (by decide) (Nat.le_of_ble_eq_true rfl) (by omega) (by omega) ?_
      refine zj_puti (n := 94) rfl dX0_settle_91 zp_X0_138 rfl hR.i.lt hR.i.ty ?_
      rw [esl]
      refine zj_gen (fun Mc => (∀ a, (a < r ∨ r + 8 < a) → Mc.1 a = M1.1 a) ∧ Mc.2 = M1.2 ∧ zRg Mc r (vend v)) ⟨fun a ha => zU_off (by omega), rfl, (hR1.setS (j := 4) hWe (by decide)).eqv (by unfold vend; rw [vcst_end hW])⟩ (fun Mc hc => ?_)
      obtain ⟨hFc, hLc, hRc⟩ := hc
      have hvw := vend_wf hW
      refine zj_aload1 (n := 95) rfl dX0_settle_94 ?_
      refine zj_aload0 (n := 96) rfl dX0_settle_95 ?_
      refine zj_getiN (e := vsold v) (n := 99) rfl dX0_settle_96 zf_X0_95 rfl hu.lt hu.ty (by rw [hFc u (by omega)]; exact hH1.2.2.2.2) ?_
      refine zj_aload0 (n := 100) rfl dX0_settle_99 ?_
      refine zj_getiN (e := vclr v) (n := 103) rfl dX0_settle_100 zf_X0_98 rfl hu.lt hu.ty (by rw [hFc u (by omega)]; exact hH1.2.2.2.1) ?_
      refine zj_aload0 (n := 104) rfl dX0_settle_103 ?_
      refine zj_getr (n := 107) (q := u + 3) rfl dX0_settle_104 zf_X0_23 rfl hu.lt hu.ty rfl ?_
      refine zj_getiN (e := (vord v 0).1) (n := 110) rfl dX0_settle_107 zf_X0_35 rfl hu.lt3 hu.ty3 (by rw [hFc (u + 3) (by omega)]; exact hH1.1.1.2.2.2.1) ?_
      refine zj_aload0 (n := 111) rfl dX0_settle_110 ?_
      refine zj_getiN (e := vrepd v) (n := 114) rfl dX0_settle_111 zf_X0_125 rfl hu.lt hu.ty (by rw [hFc u (by omega)]; exact h41) ?_
      refine zj_callV4 (n := 117) (a' := 0) (b' := 0) rfl dX0_settle_114 zm_X0_141 (by decide) hR.i.lt (by rw [hR.i.ty]; rfl) (Nat.le_of_ble_eq_true rfl) (Nat.le_of_ble_eq_true rfl) (Nat.le_of_ble_eq_true rfl) (Nat.le_of_ble_eq_true rfl) (jX6_note hRc hvw ?_)
      intro Mn hFn hun hLn hRn
      refine zj_return dX0_settle_117 rfl ?_
      have e5 : vend v 5 = v 5 := by unfold vend; rw [vset_off (by decide)]; exact hfx.low hW (by decide)
      have hFt : ∀ a, (a < r ∨ r + 8 < a) → Mn.1 a = M1.1 a := fun a ha => (hFn a (by omega) (by omega) (by omega)).trans (hFc a ha)
      refine h Mn ((zRv.ofU hF1).ringo hFt (hLn.trans hLc)) (hRn.eqv (by unfold vround; rw [e5])) ?_ ?_ ?_ ?_
      · rw [hFt u (by omega)]; exact hH1.2.2.2.2
      · rw [hFt u (by omega)]; exact h41
      · rw [hFt u (by omega)]; exact h51
      · exact (hH1.o hu).cg (hFt (u + 3) (by omega))
