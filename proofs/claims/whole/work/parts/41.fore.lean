/-! THE CLASS'S FORECAST -/
def vrs (v : zV) (k : Nat) : zV := zFor k (fun _ s => vround s) v
theorem vrs_succ (v : zV) (k : Nat) : vrs v (k + 1) = vround (vrs v k) := rfl
theorem vrs_wf {v : zV} (hW : zWF v) : ∀ k, zWF (vrs v k) := by
  intro k
  induction k with
  | zero => exact hW
  | succ k ih => rw [vrs_succ]; exact vround_wf ih
theorem vsum_bd {p : Nat → Nat} {n b : Nat} (h : ∀ i, i < n → p i ≤ b) : vsum p n ≤ n * b := by
  induction n with
  | zero => exact Nat.zero_le _
  | succ n ih =>
    rw [vsum_succ, Nat.add_mul, Nat.one_mul]
    have h1 := ih (fun i hi => h i (by omega))
    have h2 := h n (by omega)
    omega
theorem vpaid_lt {v : zV} (hW : zWF v) : vpaid v < 2 ^ 31 := by
  have h1 := vsum_bd (p := vpayd v 0) (n := (vord v 0).1) (fun i hi => vpayd_max hW hi)
  have h2 := vord_le hW 0
  have h3 : (vord v 0).1 * 9999999 ≤ 10 * 9999999 := Nat.mul_le_mul_right _ h2
  unfold vpaid
  omega
def vrsold (v : zV) (k : Nat) : Nat := vsum (fun i => vsold (vrs v i)) k
def vrpaid (v : zV) (k : Nat) : Nat := vsum (fun i => vpaid (vrs v i)) k
def zFc (M M' : zM) : Prop := (∀ a, (a < 18 ∨ 26 < a) → (a < 110 ∨ 115 < a) → M'.1 a = M.1 a) ∧ (∀ c, c ≠ 110 → c ≠ 113 → M'.2.1 c = M.2.1 c) ∧ M'.2.2 = M.2.2
theorem zFc.tr {M M1 M2 : zM} (h : zFc M M1) (h2 : zFc M1 M2) : zFc M M2 := ⟨fun a h1 h3 => (h2.1 a h1 h3).trans (h.1 a h1 h3), fun c h1 h3 => (h2.2.1 c h1 h3).trans (h.2.1 c h1 h3), h2.2.2.trans h.2.2⟩
theorem zFc.ofV {M M' : zM} (h : zRv 18 111 M M') : zFc M M' := ⟨fun a h1 h2 => h.1 a (by omega) (by omega) (by omega) (by omega), fun c _ h1 => h.2.1 c h1, h.2.2⟩
theorem zFc.ofA {M M' : zM} (h : zAf 111 M M') : zFc M M' := ⟨fun a h1 h2 => h.1 a (by omega) (by omega) (by omega), fun c _ h1 => h.2.1 c h1, h.2.2⟩
theorem zRf.gi {M : zM} {r : Nat} (h : zRf M r) : zRi r := h.1
theorem jX2_addUp {x z c d : Nat} {Q : Option Value → zM → Prop} {X : String → zM → Prop} {M : zM} (h1 : M.1 110 2 = nI x) (h2 : M.1 111 3 = nI z) (h3 : M.2.1 110 3 = lN c) (h4 : M.1 111 5 = nI d) (hd : d < 2 ^ 31) (h : Q none (zU M.1 110 2 (nI (x + z)), zU M.2.1 110 3 (lN (c + d)), M.2.2)) : zJ yX2_addUp cX2_addUp 1 none rX2_addUp Q X rX2_addUp.cells rX2_addUp.slots 0 (zEnt 1 [.ref 110]) [] M := by
  show zJ yX2_addUp cX2_addUp 1 none rX2_addUp Q X 0 0 0 [some (.ref 110)] [] M
  refine zj_aload0 (n := 1) rfl dX2_addUp_0 ?_
  refine zj_dupr (n := 2) rfl dX2_addUp_1 ?_
  refine zj_getiN (e := x) (n := 5) rfl dX2_addUp_2 zf_X2_45 rfl (by decide) (by decide) h1 ?_
  refine zj_aload0 (n := 6) rfl dX2_addUp_5 ?_
  refine zj_getr (n := 9) (q := 111) rfl dX2_addUp_6 zf_X2_21 rfl (by decide) (by decide) rfl ?_
  refine zj_getiN (e := z) (n := 12) rfl dX2_addUp_9 zf_X2_53 rfl (by decide) (by decide) h2 ?_
  refine zj_iaddN (n := 13) rfl dX2_addUp_12 ?_
  refine zj_puti (n := 16) rfl dX2_addUp_13 zp_X2_45 rfl (by decide) (by decide) ?_
  refine zj_aload0 (n := 17) rfl dX2_addUp_16 ?_
  refine zj_dupr (n := 18) rfl dX2_addUp_17 ?_
  refine zj_getlN (e := c) (n := 21) rfl dX2_addUp_18 zf_X2_49 rfl (by decide) (by decide) h3 ?_
  refine zj_aload0 (n := 22) rfl dX2_addUp_21 ?_
  refine zj_getr (n := 25) (q := 111) rfl dX2_addUp_22 zf_X2_21 rfl (by decide) (by decide) rfl ?_
  refine zj_getiN (e := d) (n := 28) rfl dX2_addUp_25 zf_X2_54 rfl (by decide) (by decide) (by dsimp only; rw [zU_ne (by decide)]; exact h4) ?_
  refine zj_i2lN (n := 29) rfl dX2_addUp_28 (by omega) ?_
  refine zj_laddN (n := 30) rfl dX2_addUp_29 ?_
  refine zj_putl (n := 33) rfl dX2_addUp_30 zp_X2_49 rfl (by decide) (by decide) ?_
  exact zj_return dX2_addUp_33 rfl h
theorem jX2_begin {v : zV} {Q : Option Value → zM → Prop} {X : String → zM → Prop} {M : zM} (hf : zRf M 18) (hR : zRg M 0 v) (hW : zWF v) (h : ∀ M', zFc M M' → zRg M' 18 v → M'.1 110 2 = nI 0 → M'.2.1 110 3 = lN 0 → M'.1 111 = M.1 111 → M'.1 114 = M.1 114 → Q none M') : zJ yX2_begin cX2_begin 2 none rX2_begin Q X rX2_begin.cells rX2_begin.slots 0 (zEnt 2 [.ref 110, .ref 0]) [] M := by
  show zJ yX2_begin cX2_begin 2 none rX2_begin Q X 0 0 0 [some (.ref 110), some (.ref 0)] [] M
  refine zj_aload0 (n := 1) rfl dX2_begin_0 ?_
  refine zj_getr (n := 4) (q := 18) rfl dX2_begin_1 zf_X2_12 rfl (by decide) (by decide) rfl ?_
  refine zj_aload1 (n := 5) rfl dX2_begin_4 ?_
  refine zj_callV1 (n := 8) (a' := 0) (b' := 0) rfl dX2_begin_5 zm_X2_42 (by decide) (by decide) rfl (Nat.le_of_ble_eq_true rfl) (Nat.le_of_ble_eq_true rfl) (Nat.le_of_ble_eq_true rfl) (Nat.le_of_ble_eq_true rfl) (jX6_copyFrom hf hR hW (by decide) ?_)
  intro M1 hF1 hL1 hR1
  refine zj_aload0 (n := 9) rfl dX2_begin_8 ?_
  refine zj_iconstN_0 (n := 10) rfl dX2_begin_9 ?_
  refine zj_puti (n := 13) rfl dX2_begin_10 zp_X2_45 rfl (by decide) (by decide) ?_
  refine zj_aload0 (n := 14) rfl dX2_begin_13 ?_
  refine zj_lconstN_0 (n := 15) rfl dX2_begin_14 ?_
  refine zj_putl (n := 18) rfl dX2_begin_15 zp_X2_49 rfl (by decide) (by decide) ?_
  exact zj_return dX2_begin_18 rfl (h (zU M1.1 110 2 (nI 0), zU M1.2.1 110 3 (lN 0), M1.2.2) ⟨fun a h1 h2 => by dsimp only; rw [zU_off (by omega)]; exact hF1 a (by omega), fun c h1 _ => by dsimp only; rw [zU_off h1, hL1], by dsimp only; rw [hL1]⟩ (hR1.cg (fun a h1 h2 => zU_off (by omega))) (by dsimp only; exact zU_eq) (by dsimp only; exact zU_eq) (by dsimp only; rw [zU_off (by decide)]; exact hF1 _ (by decide)) (by dsimp only; rw [zU_off (by decide)]; exact hF1 _ (by decide)))
theorem jX2_run {v : zV} {n : Nat} {Q : Option Value → zM → Prop} {X : String → zM → Prop} {M : zM} (hf : zRf M 18) (hR : zRg M 0 v) (hW : zWF v) (hO : zAo M 111) (hn : n < 2 ^ 31) (h : ∀ M', zFc M M' → zRg M' 18 (vrs v n) → zAo M' 111 → M'.1 110 2 = nI (vrsold v n) → M'.2.1 110 3 = lN (vrpaid v n) → Q none M') : zJ yX2_run cX2_run 4 none rX2_run Q X rX2_run.cells rX2_run.slots 0 (zEnt 4 [.ref 110, .ref 0, .int (nI n)]) [] M := by
  show zJ yX2_run cX2_run 4 none rX2_run Q X 0 0 0 [some (.ref 110), some (.ref 0), some (.int (nI n)), none] [] M
  refine zj_aload0 (n := 1) rfl dX2_run_0 ?_
  refine zj_aload1 (n := 2) rfl dX2_run_1 ?_
  refine zj_callV1 (n := 5) (a' := 0) (b' := 0) rfl dX2_run_2 zm_X2_25 (by decide) (by decide) rfl (Nat.le_of_ble_eq_true rfl) (Nat.le_of_ble_eq_true rfl) (Nat.le_of_ble_eq_true rfl) (Nat.le_of_ble_eq_true rfl) (jX2_begin hf hR hW ?_)
  intro Mb hFb hRb hsb hpb h111 h114
  have hOb : zAo Mb 111 := hO.cg h114
  refine zj_iconstN_0 (n := 6) rfl dX2_run_5 ?_
  refine zj_istore3 (n := 7) rfl dX2_run_6 rfl (Nat.le_of_ble_eq_true rfl) ?_
  refine zFor_rule (P := fun k (_ : Unit) => ∀ M1, zFc M M1 → zRg M1 18 (vrs v k) → zAo M1 111 → M1.1 110 2 = nI (vrsold v k) → M1.2.1 110 3 = lN (vrpaid v k) → zJ yX2_run cX2_run 4 none rX2_run Q X 0 0 7 [some (.ref 110), some (.ref 0), some (.int (nI n)), some (.int (nI k))] [] M1) (n := n) (f := fun _ s => s) (s0 := ()) ?_ ?_ Mb hFb hRb hOb hsb hpb
  · intro k _ hk9 hk M1 hF1 hR1 hO1 hs1 hp1
    refine zj_iload3 (n := 8) rfl dX2_run_7 ?_
    refine zj_iload2 (n := 9) rfl dX2_run_8 ?_
    refine zj_icmpN_ge (n := 12) (tgt := 44) rfl dX2_run_9 (by decide) (by omega) (by omega) (fun c9 => by omega) (fun c9 => ?_)
    refine zj_aload0 (n := 13) rfl dX2_run_12 ?_
    refine zj_getr (n := 16) (q := 111) rfl dX2_run_13 zf_X2_21 rfl (by decide) (by decide) rfl ?_
    refine zj_aload0 (n := 17) rfl dX2_run_16 ?_
    refine zj_getr (n := 20) (q := 18) rfl dX2_run_17 zf_X2_12 rfl (by decide) (by decide) rfl ?_
    refine zj_callV1 (n := 23) (a' := 0) (b' := 0) rfl dX2_run_20 zm_X2_29 (by decide) (by decide) rfl (Nat.le_of_ble_eq_true rfl) (Nat.le_of_ble_eq_true rfl) (Nat.le_of_ble_eq_true rfl) (Nat.le_of_ble_eq_true rfl) (jX0_hold hO1 hR1 (vrs_wf hW k) ?_)
    intro Mh hFh hHh
    have hRh := hFh.rg (Or.inr rfl) hR1
    refine zj_aload0 (n := 24) rfl dX2_run_23 ?_
    refine zj_getr (n := 27) (q := 111) rfl dX2_run_24 zf_X2_21 rfl (by decide) (by decide) rfl ?_
    refine zj_aload0 (n := 28) rfl dX2_run_27 ?_
    refine zj_getr (n := 31) (q := 18) rfl dX2_run_28 zf_X2_12 rfl (by decide) (by decide) rfl ?_
    refine zj_callV1 (n := 34) (a' := 0) (b' := 0) rfl dX2_run_31 zm_X2_32 (by decide) (by decide) rfl (Nat.le_of_ble_eq_true rfl) (Nat.le_of_ble_eq_true rfl) (Nat.le_of_ble_eq_true rfl) (Nat.le_of_ble_eq_true rfl) (jX0_settle (Or.inr rfl) hRh (vrs_wf hW k) hHh ?_)
    intro Ms hFs hRs h3s h4s h5s hOs
    have hFa : zFc M Ms := (hF1.tr (zFc.ofA hFh)).tr (zFc.ofV hFs)
    have hRa : zRg Ms 18 (vrs v (k + 1)) := hRs
    have hOa := hOs
    have h2s : Ms.1 110 2 = nI (vrsold v k) := by rw [hFs.1 110 (by decide) (by decide) (by decide) (by decide), hFh.1 110 (by decide) (by decide) (by decide)]; exact hs1
    have hps : Ms.2.1 110 3 = lN (vrpaid v k) := by rw [hFs.2.1 110 (by decide), hFh.2.1 110 (by decide)]; exact hp1
    refine zj_aload0 (n := 35) rfl dX2_run_34 ?_
    refine zj_callV0 (n := 38) (a' := 0) (b' := 0) rfl dX2_run_35 zm_X2_35 (by decide) (by decide) rfl (Nat.le_of_ble_eq_true rfl) (Nat.le_of_ble_eq_true rfl) (Nat.le_of_ble_eq_true rfl) (Nat.le_of_ble_eq_true rfl) (jX2_addUp h2s h3s hps h5s (vpaid_lt (vrs_wf hW k)) ?_)
    refine zj_iincN3 (n := 41) rfl dX2_run_38 rfl (Nat.le_of_ble_eq_true rfl) ?_
    refine zj_goto (tgt := 7) dX2_run_41 (by decide) ?_
    exact hk _ (hFa.tr ⟨fun a h1 h2 => zU_off (by omega), fun c h1 _ => zU_off h1, rfl⟩) (hRa.cg (fun a h1 h2 => zU_off (by omega))) (hOa.cg (by dsimp only; exact zU_off (by decide))) (by dsimp only; exact zU_eq) (by dsimp only; exact zU_eq)
  · intro M1 hF1 hR1 hO1 hs1 hp1
    refine zj_iload3 (n := 8) rfl dX2_run_7 ?_
    refine zj_iload2 (n := 9) rfl dX2_run_8 ?_
    refine zj_icmpN_ge (n := 12) (tgt := 44) rfl dX2_run_9 (by decide) (by omega) (by omega) (fun c9 => ?_) (fun c9 => by omega)
    exact zj_return dX2_run_44 rfl (h M1 hF1 hR1 hO1 hs1 hp1)
theorem jX2_untilWhole {v : zV} {m : Nat} {P : Nat → Bool} {Q : Option Value → zM → Prop} {X : String → zM → Prop} {M : zM} (hf : zRf M 18) (hR : zRg M 0 v) (hW : zWF v) (hO : zAo M 111) (hm : m < 2 ^ 31) (hP : ∀ k, k ≤ 300 → ((zMask (vrs v k 8) (fun g => vdam (vrs v k) 0 g)) &&& m = 0 ↔ P k = false)) (h : ∀ M', zFc M M' → zAo M' 111 → zRf M' 18 → M'.2.1 110 3 = lN (vrpaid v (min (zFst 301 (fun k => !P k)) 300)) → Q (some (.int (zo (zfo 301 (fun k => !P k))))) M') : zJ yX2_untilWhole cX2_untilWhole 4 (some .int) rX2_untilWhole Q X rX2_untilWhole.cells rX2_untilWhole.slots 0 (zEnt 4 [.ref 110, .ref 0, .int (nI m)]) [] M := by
  show zJ yX2_untilWhole cX2_untilWhole 4 (some .int) rX2_untilWhole Q X 0 0 0 [some (.ref 110), some (.ref 0), some (.int (nI m)), none] [] M
  refine zj_aload0 (n := 1) rfl dX2_untilWhole_0 ?_
  refine zj_aload1 (n := 2) rfl dX2_untilWhole_1 ?_
  refine zj_callV1 (n := 5) (a' := 0) (b' := 0) rfl dX2_untilWhole_2 zm_X2_25 (by decide) (by decide) rfl (Nat.le_of_ble_eq_true rfl) (Nat.le_of_ble_eq_true rfl) (Nat.le_of_ble_eq_true rfl) (Nat.le_of_ble_eq_true rfl) (jX2_begin hf hR hW ?_)
  intro Mb hFb hRb hsb hpb h111 h114
  have hOb : zAo Mb 111 := hO.cg h114
  refine zj_iconstN_0 (n := 6) rfl dX2_untilWhole_5 ?_
  refine zj_istore3 (n := 7) rfl dX2_untilWhole_6 rfl (Nat.le_of_ble_eq_true rfl) ?_
  refine zFind_rule (P := fun k => ∀ M1, zFc M M1 → zRg M1 18 (vrs v k) → zAo M1 111 → M1.1 110 2 = nI (vrsold v k) → M1.2.1 110 3 = lN (vrpaid v k) → zJ yX2_untilWhole cX2_untilWhole 4 (some .int) rX2_untilWhole Q X 0 0 7 [some (.ref 110), some (.ref 0), some (.int (nI m)), some (.int (nI k))] [] M1) (n := 300) (p := fun k => !P k) ?_ ?_ Mb hFb hRb hOb hsb hpb
  · intro k hk9 hf9 hk0 M1 hF1 hR1 hO1 hs1 hp1
    refine zj_iload3 (n := 8) rfl dX2_untilWhole_7 ?_
    refine zj_sipushN (v := 300) (n := 11) rfl dX2_untilWhole_8 (by decide) ?_
    refine zj_icmpN_ge (n := 14) (tgt := 60) rfl dX2_untilWhole_11 (by decide) (by omega) (by omega) (fun c11 => by omega) (fun c11 => ?_)
    refine zj_aload0 (n := 15) rfl dX2_untilWhole_14 ?_
    refine zj_getr (n := 18) (q := 18) rfl dX2_untilWhole_15 zf_X2_12 rfl (by decide) (by decide) rfl ?_
    refine zj_callV0 (n := 21) (a' := 0) (b' := 0) rfl dX2_untilWhole_18 zm_X2_38 (by decide) (by decide) rfl (Nat.le_of_ble_eq_true rfl) (Nat.le_of_ble_eq_true rfl) (Nat.le_of_ble_eq_true rfl) (Nat.le_of_ble_eq_true rfl) (jX6_damagedSet hR1 (vrs_wf hW k) ?_)
    refine zj_iload2 (n := 22) rfl dX2_untilWhole_21 ?_
    refine zj_iand (n := 23) rfl dX2_untilWhole_22 ?_
    rw [zandN (zMask_lt31 (by have := (vrs_wf hW k).gN; omega)) hm]
    refine zj_ifN_ne (n := 26) (tgt := 28) rfl dX2_untilWhole_23 (by decide) (Nat.lt_of_le_of_lt Nat.and_le_left (zMask_lt31 (by have := (vrs_wf hW k).gN; omega))) (fun c23 => ?_) (fun c23 => ?_)
    · refine zj_aload0 (n := 29) rfl dX2_untilWhole_28 ?_
      refine zj_getr (n := 32) (q := 111) rfl dX2_untilWhole_29 zf_X2_21 rfl (by decide) (by decide) rfl ?_
      refine zj_aload0 (n := 33) rfl dX2_untilWhole_32 ?_
      refine zj_getr (n := 36) (q := 18) rfl dX2_untilWhole_33 zf_X2_12 rfl (by decide) (by decide) rfl ?_
      refine zj_callV1 (n := 39) (a' := 0) (b' := 0) rfl dX2_untilWhole_36 zm_X2_29 (by decide) (by decide) rfl (Nat.le_of_ble_eq_true rfl) (Nat.le_of_ble_eq_true rfl) (Nat.le_of_ble_eq_true rfl) (Nat.le_of_ble_eq_true rfl) (jX0_hold hO1 hR1 (vrs_wf hW k) ?_)
      intro Mh hFh hHh
      have hRh := hFh.rg (Or.inr rfl) hR1
      refine zj_aload0 (n := 40) rfl dX2_untilWhole_39 ?_
      refine zj_getr (n := 43) (q := 111) rfl dX2_untilWhole_40 zf_X2_21 rfl (by decide) (by decide) rfl ?_
      refine zj_aload0 (n := 44) rfl dX2_untilWhole_43 ?_
      refine zj_getr (n := 47) (q := 18) rfl dX2_untilWhole_44 zf_X2_12 rfl (by decide) (by decide) rfl ?_
      refine zj_callV1 (n := 50) (a' := 0) (b' := 0) rfl dX2_untilWhole_47 zm_X2_32 (by decide) (by decide) rfl (Nat.le_of_ble_eq_true rfl) (Nat.le_of_ble_eq_true rfl) (Nat.le_of_ble_eq_true rfl) (Nat.le_of_ble_eq_true rfl) (jX0_settle (Or.inr rfl) hRh (vrs_wf hW k) hHh ?_)
      intro Ms hFs hRs h3s h4s h5s hOs
      have hFa : zFc M Ms := (hF1.tr (zFc.ofA hFh)).tr (zFc.ofV hFs)
      have hRa : zRg Ms 18 (vrs v (k + 1)) := hRs
      have hOa := hOs
      have h2s : Ms.1 110 2 = nI (vrsold v k) := by rw [hFs.1 110 (by decide) (by decide) (by decide) (by decide), hFh.1 110 (by decide) (by decide) (by decide)]; exact hs1
      have hps : Ms.2.1 110 3 = lN (vrpaid v k) := by rw [hFs.2.1 110 (by decide), hFh.2.1 110 (by decide)]; exact hp1
      refine zj_aload0 (n := 51) rfl dX2_untilWhole_50 ?_
      refine zj_callV0 (n := 54) (a' := 0) (b' := 0) rfl dX2_untilWhole_51 zm_X2_35 (by decide) (by decide) rfl (Nat.le_of_ble_eq_true rfl) (Nat.le_of_ble_eq_true rfl) (Nat.le_of_ble_eq_true rfl) (Nat.le_of_ble_eq_true rfl) (jX2_addUp h2s h3s hps h5s (vpaid_lt (vrs_wf hW k)) ?_)
      refine zj_iincN3 (n := 57) rfl dX2_untilWhole_54 rfl (Nat.le_of_ble_eq_true rfl) ?_
      refine zj_goto (tgt := 7) dX2_untilWhole_57 (by decide) ?_
      have hk := hk0 (by cases e : P k with | true => rfl | false => (have := (hP k (by omega)).mpr e; omega))
      exact hk _ (hFa.tr ⟨fun a h1 h2 => zU_off (by omega), fun c h1 _ => zU_off h1, rfl⟩) (hRa.cg (fun a h1 h2 => zU_off (by omega))) (hOa.cg (by dsimp only; exact zU_off (by decide))) (by dsimp only; exact zU_eq) (by dsimp only; exact zU_eq)
    · refine zj_iload3 (n := 27) rfl dX2_untilWhole_26 ?_
      refine zj_ireturn dX2_untilWhole_27 rfl rfl ?_
      have e1 : P k = false := (hP k (by omega)).mp c23
      have e2 : zFst 301 (fun k => !P k) = k := zFst_eq (show k < 301 by omega) (by rw [e1]; rfl) hf9
      have e3 : zfo 301 (fun k => !P k) = some k := zfo_some (show k < 301 by omega) (by rw [e1]; rfl) hf9
      rw [e2, e3] at h
      exact h M1 hF1 hO1 hR1.f (by rw [show min k 300 = k by omega]; exact hp1)
  · intro hf9 M1 hF1 hR1 hO1 hs1 hp1
    refine zj_iload3 (n := 8) rfl dX2_untilWhole_7 ?_
    refine zj_sipushN (v := 300) (n := 11) rfl dX2_untilWhole_8 (by decide) ?_
    refine zj_icmpN_ge (n := 14) (tgt := 60) rfl dX2_untilWhole_11 (by decide) (by omega) (by omega) (fun c11 => ?_) (fun c11 => by omega)
    refine zj_aload0 (n := 61) rfl dX2_untilWhole_60 ?_
    refine zj_getr (n := 64) (q := 18) rfl dX2_untilWhole_61 zf_X2_12 rfl (by decide) (by decide) rfl ?_
    refine zj_callV0 (n := 67) (a' := 0) (b' := 0) rfl dX2_untilWhole_64 zm_X2_38 (by decide) (by decide) rfl (Nat.le_of_ble_eq_true rfl) (Nat.le_of_ble_eq_true rfl) (Nat.le_of_ble_eq_true rfl) (Nat.le_of_ble_eq_true rfl) (jX6_damagedSet hR1 (vrs_wf hW 300) ?_)
    refine zj_iload2 (n := 68) rfl dX2_untilWhole_67 ?_
    refine zj_iand (n := 69) rfl dX2_untilWhole_68 ?_
    rw [zandN (zMask_lt31 (by have := (vrs_wf hW 300).gN; omega)) hm]
    refine zj_ifN_ne (n := 72) (tgt := 78) rfl dX2_untilWhole_69 (by decide) (Nat.lt_of_le_of_lt Nat.and_le_left (zMask_lt31 (by have := (vrs_wf hW 300).gN; omega))) (fun c69 => ?_) (fun c69 => ?_)
    · refine zj_iconst_m1 (n := 79) rfl dX2_untilWhole_78 ?_
      refine zj_ireturn dX2_untilWhole_79 rfl rfl ?_
      have e0 : P 300 = true := by cases e : P 300 with | true => rfl | false => (have := (hP 300 (by omega)).mpr e; omega)
      have e4 : ∀ i, i < 301 → (!P i) = false := fun i hi => by
        rcases Nat.lt_or_ge i 300 with q | q
        · exact hf9 i q
        · have : i = 300 := by omega
          rw [this, e0]; rfl
      have e2 : zFst 301 (fun k => !P k) = 301 := zFst_none.mpr e4
      have e3 : zfo 301 (fun k => !P k) = none := zfo_none e4
      rw [e2, e3] at h
      exact h M1 hF1 hO1 hR1.f hp1
    · refine zj_sipushN (v := 300) (n := 75) rfl dX2_untilWhole_72 (by decide) ?_
      refine zj_goto (tgt := 79) dX2_untilWhole_75 (by decide) ?_
      refine zj_ireturn dX2_untilWhole_79 rfl rfl ?_
      have e1 : P 300 = false := (hP 300 (by omega)).mp c69
      have e2 : zFst 301 (fun k => !P k) = 300 := zFst_eq (show 300 < 301 by omega) (by rw [e1]; rfl) hf9
      have e3 : zfo 301 (fun k => !P k) = some 300 := zfo_some (show 300 < 301 by omega) (by rw [e1]; rfl) hf9
      rw [e2, e3] at h
      exact h M1 hF1 hO1 hR1.f hp1
