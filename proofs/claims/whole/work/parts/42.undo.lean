/-! THE CLASS'S UNDO -/
def zSl (o p : Nat) : Nat := 27 + 9 * ((o + p) % 8)
theorem zSl.i (o p : Nat) : zRi (zSl o p) := by unfold zRi zSl; omega
def zUd (M : zM) (un : Nat) (uv : Nat → zV) : Prop := un ≤ 8 ∧ (∀ i, i < 8 → zRf M (27 + 9 * i)) ∧ ∃ o, o < 8 ∧ M.1 116 1 = nI o ∧ M.1 116 2 = nI un ∧ ∀ i, i < un → zRg M (zSl o i) (uv i)
theorem zUd.cg {M M' : zM} {un : Nat} {uv : Nat → zV} (h : zUd M un uv) (e : ∀ a, 27 ≤ a ∧ a ≤ 98 ∨ a = 116 → M'.1 a = M.1 a) : zUd M' un uv := by
  obtain ⟨h1, h2, o, h3, h4, h5, h6⟩ := h
  refine ⟨h1, fun i hi => (h2 i hi).cg (fun a _ _ => e a (by omega)), o, h3, by rw [e 116 (by omega)]; exact h4, by rw [e 116 (by omega)]; exact h5, fun i hi => (h6 i hi).cg (fun a h7 h8 => e a (by unfold zSl at h7 h8; omega))⟩
def vkN (un : Nat) : Nat := if un = 8 then 8 else un + 1
def vkU (un : Nat) (uv : Nat → zV) (v : zV) : Nat → zV := fun i => if un = 8 then (if i < 7 then uv (i + 1) else v) else if i < un then uv i else v
theorem jX8_slotAt {o p : Nat} {Q : Option Value → zM → Prop} {X : String → zM → Prop} {M : zM} (ho : M.1 116 1 = nI o) (ho8 : o < 8) (hp : p < 16) (h : Q (some (.ref (zSl o p))) M) : zJ yX8_slotAt cX8_slotAt 3 (some (.object "RepairAuction$Ring")) rX8_slotAt Q X rX8_slotAt.cells rX8_slotAt.slots 0 (zEnt 3 [.ref 116, .int (nI p)]) [] M := by
  show zJ yX8_slotAt cX8_slotAt 3 (some (.object "RepairAuction$Ring")) rX8_slotAt Q X 0 0 0 [some (.ref 116), some (.int (nI p)), none] [] M
  refine zj_aload0 (n := 1) rfl dX8_slotAt_0 ?_
  refine zj_getiN (e := o) (n := 4) rfl dX8_slotAt_1 zf_X8_22 rfl (by decide) (by decide) ho ?_
  refine zj_iload1 (n := 5) rfl dX8_slotAt_4 ?_
  refine zj_iaddN (n := 6) rfl dX8_slotAt_5 ?_
  refine zj_bipushN (v := 8) (n := 8) rfl dX8_slotAt_6 (by decide) ?_
  refine zj_iremN (n := 9) rfl dX8_slotAt_8 (by omega) (by omega) (by omega) ?_
  refine zj_istore2 (n := 10) rfl dX8_slotAt_9 rfl (Nat.le_of_ble_eq_true rfl) ?_
  refine zj_iload1 (n := 11) rfl dX8_slotAt_10 ?_
  refine zj_ifN_lt (n := 14) (tgt := 36) rfl dX8_slotAt_11 (by decide) (by omega) ?_
  refine zj_iload2 (n := 15) rfl dX8_slotAt_14 ?_
  refine zj_ifN_lt (n := 18) (tgt := 36) rfl dX8_slotAt_15 (by decide) (by omega) ?_
  refine zj_iload2 (n := 19) rfl dX8_slotAt_18 ?_
  refine zj_aload0 (n := 20) rfl dX8_slotAt_19 ?_
  refine zj_getr (n := 23) (q := 117) rfl dX8_slotAt_20 zf_X8_11 rfl (by decide) (by decide) rfl ?_
  refine zj_arraylength (n := 24) (v := nI 8) rfl dX8_slotAt_23 (by decide) (Or.inr (Or.inr (Or.inr rfl))) rfl ?_
  -- 
  refine zj_icmpN_ge (n := 27) (tgt := 36) rfl dX8_slotAt_24 (by decide) (by omega) (by omega) (fun c24 => by omega) (fun c24 => ?_)
  refine zj_aload0 (n := 28) rfl dX8_slotAt_27 ?_
  refine zj_getr (n := 31) (q := 117) rfl dX8_slotAt_28 zf_X8_11 rfl (by decide) (by decide) rfl ?_
  refine zj_iload2 (n := 32) rfl dX8_slotAt_31 ?_
  refine zj_aaload (n := 33) (j := zSl o p) rfl dX8_slotAt_32 (by decide) (by decide) (vp_in_nI (show (o + p) % 8 < 8 by omega) (by decide)) (by rw [nI_clamp (by omega)]; rfl) ?_
  refine zj_goto (tgt := 37) dX8_slotAt_33 (by decide) ?_
  exact zj_areturn dX8_slotAt_37 rfl h
theorem jX8_keep_t {o n : Nat} {v : zV} {Q : Option Value → zM → Prop} {X : String → zM → Prop} {M : zM} (ho : M.1 116 1 = nI o) (ho8 : o < 8) (hn : M.1 116 2 = nI n) (hn8 : n < 8) (hf : zRf M (zSl o n)) (hR : zRg M 0 v) (hW : zWF v) (h : ∀ M', (∀ a, (a < zSl o n ∨ zSl o n + 8 < a) → a ≠ 116 → M'.1 a = M.1 a) → M'.2 = M.2 → zRg M' (zSl o n) v → M'.1 116 1 = nI o → M'.1 116 2 = nI (n + 1) → Q none M') : zJ yX8_keep cX8_keep 3 none rX8_keep Q X 0 0 32 [some (.ref 116), some (.ref 0), none] [] M := by
  refine zj_aload0 (n := 33) rfl dX8_keep_32 ?_
  refine zj_aload0 (n := 34) rfl dX8_keep_33 ?_
  refine zj_getiN (e := n) (n := 37) rfl dX8_keep_34 zf_X8_18 rfl (by decide) (by decide) hn ?_
  refine zj_callV1 (n := 40) (a' := 0) (b' := 0) rfl dX8_keep_37 zm_X8_25 (by decide) (by decide) rfl (Nat.le_of_ble_eq_true rfl) (Nat.le_of_ble_eq_true rfl) (Nat.le_of_ble_eq_true rfl) (Nat.le_of_ble_eq_true rfl) (jX8_slotAt (p := n) ho ho8 (by omega) ?_)
  refine zj_astore2 (n := 41) rfl dX8_keep_40 rfl (Nat.le_of_ble_eq_true rfl) ?_
  refine zj_aload2 (n := 42) rfl dX8_keep_41 ?_
  refine zj_ifnull (n := 45) rfl dX8_keep_42 ?_
  refine zj_aload2 (n := 46) rfl dX8_keep_45 ?_
  refine zj_aload1 (n := 47) rfl dX8_keep_46 ?_
  refine zj_callV1 (n := 50) (a' := 0) (b' := 0) rfl dX8_keep_47 zm_X8_29 (by decide) (zSl.i o n).lt (by rw [(zSl.i o n).ty]; rfl) (Nat.le_of_ble_eq_true rfl) (Nat.le_of_ble_eq_true rfl) (Nat.le_of_ble_eq_true rfl) (Nat.le_of_ble_eq_true rfl) (jX6_copyFrom hf hR hW (by unfold zSl; omega) ?_)
  intro M1 hF1 hL1 hR1
  refine zj_aload0 (n := 51) rfl dX8_keep_50 ?_
  refine zj_dupr (n := 52) rfl dX8_keep_51 ?_
  refine zj_getiN (e := n) (n := 55) rfl dX8_keep_52 zf_X8_18 rfl (by decide) (by decide) (by rw [hF1 116 (Or.inr (by have := (zSl.i o n).le; omega))]; exact hn) ?_
  refine zj_iconstN_1 (n := 56) rfl dX8_keep_55 ?_
  refine zj_iaddN (n := 57) rfl dX8_keep_56 ?_
  refine zj_puti (n := 60) rfl dX8_keep_57 zp_X8_18 rfl (by decide) (by decide) ?_
  exact zj_return dX8_keep_60 rfl (h (zU M1.1 116 2 (nI (n + 1)), M1.2) (fun a h1 h2 => by dsimp only; rw [zU_off h2]; exact hF1 a h1) hL1 (hR1.cg (fun a h1 h2 => zU_off (by have := (zSl.i o n).le; omega))) (by dsimp only; rw [zU_nj (by decide), hF1 116 (Or.inr (by have := (zSl.i o n).le; omega))]; exact ho) (by dsimp only; exact zU_eq))
theorem jX8_keep {un : Nat} {uv : Nat → zV} {v : zV} {Q : Option Value → zM → Prop} {X : String → zM → Prop} {M : zM} (hU : zUd M un uv) (hR : zRg M 0 v) (hW : zWF v) (h : ∀ M', (∀ a, (a < 27 ∨ 98 < a) → a ≠ 116 → M'.1 a = M.1 a) → M'.2 = M.2 → zUd M' (vkN un) (vkU un uv v) → Q none M') : zJ yX8_keep cX8_keep 3 none rX8_keep Q X rX8_keep.cells rX8_keep.slots 0 (zEnt 3 [.ref 116, .ref 0]) [] M := by
  obtain ⟨hu8, hf, o, ho8, ho, hn, hk⟩ := hU
  show zJ yX8_keep cX8_keep 3 none rX8_keep Q X 0 0 0 [some (.ref 116), some (.ref 0), none] [] M
  refine zj_aload0 (n := 1) rfl dX8_keep_0 ?_
  refine zj_getiN (e := un) (n := 4) rfl dX8_keep_1 zf_X8_18 rfl (by decide) (by decide) hn ?_
  refine zj_bipushN (v := 8) (n := 6) rfl dX8_keep_4 (by decide) ?_
  refine zj_icmpN_ne (n := 9) (tgt := 32) rfl dX8_keep_6 (by decide) (by omega) (by omega) (fun c6 => ?_) (fun c6 => ?_)
  · refine zj_room (a' := 0) (b' := 0) (Nat.zero_le _) (Nat.zero_le _) ?_
    refine zj_keep [true, true, false] ?_
    refine jX8_keep_t ho ho8 hn (by omega) (hf ((o + un) % 8) (by omega)) hR hW (fun M' a1 a2 a3 a4 a5 => h M' (fun a h1 h2 => a1 a (by unfold zSl; omega) h2) a2 ⟨by unfold vkN; split <;> omega, fun i hi => ?_, o, ho8, a4, a5.trans (by unfold vkN; rw [if_neg c6]), fun i hi => ?_⟩)
    · by_cases q : i = (o + un) % 8
      · subst q; exact a3.f
      · exact (hf i hi).cg (fun a h1 h2 => a1 a (by unfold zSl; omega) (by omega))
    · unfold vkU
      unfold vkN at hi
      rw [if_neg c6] at hi ⊢
      by_cases q : i < un
      · rw [if_pos q]
        exact (hk i q).cg (fun a h1 h2 => a1 a (by unfold zSl at *; omega) (by unfold zSl at *; omega))
      · rw [if_neg q, show i = un by omega]; exact a3
  · refine zj_aload0 (n := 10) rfl dX8_keep_9 ?_
    refine zj_aload0 (n := 11) rfl dX8_keep_10 ?_
    refine zj_getiN (e := o) (n := 14) rfl dX8_keep_11 zf_X8_22 rfl (by decide) (by decide) ho ?_
    refine zj_iconstN_1 (n := 15) rfl dX8_keep_14 ?_
    refine zj_iaddN (n := 16) rfl dX8_keep_15 ?_
    refine zj_bipushN (v := 8) (n := 18) rfl dX8_keep_16 (by decide) ?_
    refine zj_iremN (n := 19) rfl dX8_keep_18 (by omega) (by omega) (by omega) ?_
    refine zj_puti (n := 22) rfl dX8_keep_19 zp_X8_22 rfl (by decide) (by decide) ?_
    refine zj_aload0 (n := 23) rfl dX8_keep_22 ?_
    refine zj_dupr (n := 24) rfl dX8_keep_23 ?_
    refine zj_getiN (e := un) (n := 27) rfl dX8_keep_24 zf_X8_18 rfl (by decide) (by decide) (by dsimp only; rw [zU_nj (by decide)]; exact hn) ?_
    refine zj_iconstN_1 (n := 28) rfl dX8_keep_27 ?_
    refine zj_isubN (n := 29) rfl dX8_keep_28 (by omega) ?_
    refine zj_puti (n := 32) rfl dX8_keep_29 zp_X8_18 rfl (by decide) (by decide) ?_
    refine zj_room (a' := 0) (b' := 0) (Nat.zero_le _) (Nat.zero_le _) ?_
    refine zj_keep [true, true, false] ?_
    have kk : ∀ a, a ≠ 116 → (zU (zU M.1 116 1 (nI ((o + 1) % 8))) 116 2 (nI (un - 1))) a = M.1 a := fun a ha => by rw [zU_off ha, zU_off ha]
    refine jX8_keep_t (o := (o + 1) % 8) (n := un - 1) (by dsimp only; rw [zU_nj (by decide)]; exact zU_eq) (by omega) (by dsimp only; exact zU_eq) (by omega) ((hf (((o + 1) % 8 + (un - 1)) % 8) (by omega)).cg (fun a _ _ => kk a (by omega))) (hR.cg (fun a _ _ => kk a (by omega))) hW (fun M' a1 a2 a3 a4 a5 => h M' (fun a h1 h2 => (a1 a (by unfold zSl; omega) h2).trans (kk a h2)) a2 ⟨by unfold vkN; split <;> omega, fun i hi => ?_, (o + 1) % 8, by omega, a4, a5.trans (by unfold vkN; rw [if_pos c6]; exact congrArg nI (by omega)), fun i hi => ?_⟩)
    · by_cases q : i = ((o + 1) % 8 + (un - 1)) % 8
      · subst q; exact a3.f
      · exact (hf i hi).cg (fun a h1 h2 => (a1 a (by unfold zSl; omega) (by omega)).trans (kk a (by omega)))
    · unfold vkU
      unfold vkN at hi
      rw [if_pos c6] at hi ⊢
      by_cases q : i < 7
      · rw [if_pos q]
        have e9 : zSl ((o + 1) % 8) i = zSl o (i + 1) := by unfold zSl; omega
        rw [e9]
        exact (hk (i + 1) (by omega)).cg (fun a h1 h2 => (a1 a (by unfold zSl at *; omega) (by unfold zSl at *; omega)).trans (kk a (by unfold zSl at *; omega)))
      · rw [if_neg q, show i = un - 1 by omega]; exact a3
theorem jX8_bringBack {un : Nat} {uv : Nat → zV} {Q : Option Value → zM → Prop} {X : String → zM → Prop} {M : zM} (hU : zUd M un uv) (hf0 : zRf M 0) (hW : zWF (uv (un - 1))) (h0 : 0 < un) (h : ∀ M', (∀ a, 8 < a → a ≠ 116 → M'.1 a = M.1 a) → M'.2 = M.2 → zRg M' 0 (uv (un - 1)) → zUd M' (un - 1) uv → Q none M') : zJ yX8_bringBack cX8_bringBack 3 none rX8_bringBack Q X rX8_bringBack.cells rX8_bringBack.slots 0 (zEnt 3 [.ref 116, .ref 0]) [] M := by
  obtain ⟨hu8, hf, o, ho8, ho, hn, hk⟩ := hU
  show zJ yX8_bringBack cX8_bringBack 3 none rX8_bringBack Q X 0 0 0 [some (.ref 116), some (.ref 0), none] [] M
  refine zj_aload0 (n := 1) rfl dX8_bringBack_0 ?_
  refine zj_aload0 (n := 2) rfl dX8_bringBack_1 ?_
  refine zj_getiN (e := un) (n := 5) rfl dX8_bringBack_2 zf_X8_18 rfl (by decide) (by decide) hn ?_
  refine zj_iconstN_1 (n := 6) rfl dX8_bringBack_5 ?_
  refine zj_isubN (n := 7) rfl dX8_bringBack_6 (by omega) ?_
  refine zj_callV1 (n := 10) (a' := 0) (b' := 0) rfl dX8_bringBack_7 zm_X8_25 (by decide) (by decide) rfl (Nat.le_of_ble_eq_true rfl) (Nat.le_of_ble_eq_true rfl) (Nat.le_of_ble_eq_true rfl) (Nat.le_of_ble_eq_true rfl) (jX8_slotAt (p := un - 1) ho ho8 (by omega) ?_)
  refine zj_astore2 (n := 11) rfl dX8_bringBack_10 rfl (Nat.le_of_ble_eq_true rfl) ?_
  refine zj_aload2 (n := 12) rfl dX8_bringBack_11 ?_
  refine zj_ifnull (n := 15) rfl dX8_bringBack_12 ?_
  refine zj_aload1 (n := 16) rfl dX8_bringBack_15 ?_
  refine zj_aload2 (n := 17) rfl dX8_bringBack_16 ?_
  refine zj_callV1 (n := 20) (a' := 0) (b' := 0) rfl dX8_bringBack_17 zm_X8_29 (by decide) (by decide) rfl (Nat.le_of_ble_eq_true rfl) (Nat.le_of_ble_eq_true rfl) (Nat.le_of_ble_eq_true rfl) (Nat.le_of_ble_eq_true rfl) (jX6_copyFrom hf0 (hk (un - 1) (by omega)) hW (by unfold zSl; omega) ?_)
  intro M1 hF1 hL1 hR1
  refine zj_aload0 (n := 21) rfl dX8_bringBack_20 ?_
  refine zj_dupr (n := 22) rfl dX8_bringBack_21 ?_
  refine zj_getiN (e := un) (n := 25) rfl dX8_bringBack_22 zf_X8_18 rfl (by decide) (by decide) (by rw [hF1 116 (by decide)]; exact hn) ?_
  refine zj_iconstN_1 (n := 26) rfl dX8_bringBack_25 ?_
  refine zj_isubN (n := 27) rfl dX8_bringBack_26 (by omega) ?_
  refine zj_puti (n := 30) rfl dX8_bringBack_27 zp_X8_18 rfl (by decide) (by decide) ?_
  exact zj_return dX8_bringBack_30 rfl (h (zU M1.1 116 2 (nI (un - 1)), M1.2) (fun a h1 h2 => by dsimp only; rw [zU_off h2]; exact hF1 a (by omega)) hL1 (hR1.cg (fun a h1 h2 => zU_off (by omega))) ⟨by omega, fun i hi => (hf i hi).cg (fun a _ _ => by dsimp only; rw [zU_off (by omega)]; exact hF1 a (by omega)), o, ho8, by dsimp only; rw [zU_nj (by decide), hF1 116 (by decide)]; exact ho, by dsimp only; exact zU_eq, fun i hi => (hk i (by omega)).cg (fun a h1 h2 => by unfold zSl at h1 h2; dsimp only; rw [zU_off (by omega)]; exact hF1 a (by omega))⟩)
