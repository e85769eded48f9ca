/-! TABLES: rows made, dropped, sought, copied -/
theorem zTN.ne {M : zM} {k c cap n : Nat} (h : zTN M k c cap n) : k ≠ k + 1 ∧ k + 1 ≠ k := ⟨by omega, by omega⟩
def zfo (n : Nat) (p : Nat → Bool) : Option Nat := if zFst n p < n then some (zFst n p) else none
theorem zfo_some {n i : Nat} {p : Nat → Bool} (h1 : i < n) (h2 : p i = true) (h3 : ∀ j, j < i → p j = false) : zfo n p = some i := by
  unfold zfo
  rw [zFst_eq h1 h2 h3, if_pos h1]
theorem zfo_none {n : Nat} {p : Nat → Bool} (h : ∀ i, i < n → p i = false) : zfo n p = none := by
  unfold zfo
  rw [zFst_none.mpr h, if_neg (by omega)]
theorem zTN.keep {M M' : zM} {k c cap n : Nat} (h : zTN M k c cap n) (h0 : M'.1 k 0 = M.1 k 0) (h2 : M'.1 k 2 = M.1 k 2) : zTN M' k c cap n := ⟨h.1, h0.trans h.2.1, h.2.2.1, h2.trans h.2.2.2.1, h.2.2.2.2⟩
theorem zTN.sz {M M' : zM} {k c cap n m : Nat} (h : zTN M k c cap n) (h0 : M'.1 k 0 = M.1 k 0) (h2 : M'.1 k 2 = nI m) (hm : m ≤ cap) : zTN M' k c cap m := ⟨h.1, h0.trans h.2.1, h.2.2.1, h2, hm, h.2.2.2.2.2⟩
theorem jX7_insertRow {k c cap n row : Nat} {Q : Option Value → zM → Prop} {X : String → zM → Prop} {M : zM} (hT : zTN M k c cap n) (hr : row ≤ n) (hn : n < cap) (h : ∀ M', (∀ a, a ≠ k → a ≠ k + 1 → M'.1 a = M.1 a) → M'.2 = M.2 → zTN M' k c cap (n + 1) → (∀ j, j < row * c → M'.1 (k + 1) j = M.1 (k + 1) j) → (∀ j, j < c → M'.1 (k + 1) (row * c + j) = nI 0) → (∀ j, row * c ≤ j → j < n * c → M'.1 (k + 1) (j + c) = M.1 (k + 1) j) → Q none M') : zJ yX7_insertRow cX7_insertRow 4 none rX7_insertRow Q X rX7_insertRow.cells rX7_insertRow.slots 0 (zEnt 4 [.ref k, .int (nI row)]) [] M := by
  obtain ⟨b1, b2, b3⟩ := hT.nlt
  have h3 := hT.2.2.1
  have h6 := hT.2.2.2.2.2.1
  have h7 := hT.2.2.2.2.2.2
  have e1 : (n - row) * c = n * c - row * c := Nat.sub_mul n row c
  have e2 : row * c ≤ n * c := Nat.mul_le_mul_right c hr
  have e3 : (n + 1) * c ≤ cap * c := Nat.mul_le_mul_right c hn
  rw [Nat.add_mul, Nat.one_mul, Nat.mul_comm cap c] at e3
  show zJ yX7_insertRow cX7_insertRow 4 none rX7_insertRow Q X 0 0 0 [some (.ref k), some (.int (nI row)), none, none] [] M
  refine zj_aload0 (n := 1) rfl dX7_insertRow_0 ?_
  refine zj_callV0 (n := 4) (a' := 0) (b' := 0) rfl dX7_insertRow_1 zm_X7_35 (by decide) hT.1.1 (by rw [hT.1.2.1]; rfl) (Nat.le_of_ble_eq_true rfl) (Nat.le_of_ble_eq_true rfl) (Nat.le_of_ble_eq_true rfl) (Nat.le_of_ble_eq_true rfl) (jT_isFull hT ?_)
  refine zj_ifB_ne (n := 7) (tgt := 19) rfl dX7_insertRow_4 (by decide) (fun c4 => (absurd (of_decide_eq_true c4) (by omega))) (fun c4 => ?_)
  refine zj_iload1 (n := 8) rfl dX7_insertRow_7 ?_
  refine zj_ifN_lt (n := 11) (tgt := 19) rfl dX7_insertRow_8 (by decide) (by omega) ?_
  refine zj_iload1 (n := 12) rfl dX7_insertRow_11 ?_
  refine zj_aload0 (n := 13) rfl dX7_insertRow_12 ?_
  refine zj_getiN (e := n) (n := 16) rfl dX7_insertRow_13 zf_X7_25 rfl hT.1.1 hT.1.2.1 hT.2.2.2.1 ?_
  refine zj_icmpN_le (n := 19) (tgt := 20) rfl dX7_insertRow_16 (by decide) (by omega) (by omega) (fun c16 => ?_) (fun c16 => by omega)
  refine zj_iload1 (n := 21) rfl dX7_insertRow_20 ?_
  refine zj_aload0 (n := 22) rfl dX7_insertRow_21 ?_
  refine zj_getiN (e := c) (n := 25) rfl dX7_insertRow_22 zf_X7_9 rfl hT.1.1 hT.1.2.1 hT.2.1 ?_
  refine zj_imulN (n := 26) rfl dX7_insertRow_25 ?_
  refine zj_istore2 (n := 27) rfl dX7_insertRow_26 rfl (Nat.le_of_ble_eq_true rfl) ?_
  refine zj_aload0 (n := 28) rfl dX7_insertRow_27 ?_
  refine zj_getr (n := 31) (q := k + 1) rfl dX7_insertRow_28 zf_X7_21 rfl hT.1.1 hT.1.2.1 rfl ?_
  refine zj_iload2 (n := 32) rfl dX7_insertRow_31 ?_
  refine zj_aload0 (n := 33) rfl dX7_insertRow_32 ?_
  refine zj_getr (n := 36) (q := k + 1) rfl dX7_insertRow_33 zf_X7_21 rfl hT.1.1 hT.1.2.1 rfl ?_
  refine zj_iload2 (n := 37) rfl dX7_insertRow_36 ?_
  refine zj_aload0 (n := 38) rfl dX7_insertRow_37 ?_
  refine zj_getiN (e := c) (n := 41) rfl dX7_insertRow_38 zf_X7_9 rfl hT.1.1 hT.1.2.1 hT.2.1 ?_
  refine zj_iaddN (n := 42) rfl dX7_insertRow_41 ?_
  refine zj_aload0 (n := 43) rfl dX7_insertRow_42 ?_
  refine zj_getiN (e := n) (n := 46) rfl dX7_insertRow_43 zf_X7_25 rfl hT.1.1 hT.1.2.1 hT.2.2.2.1 ?_
  refine zj_iload1 (n := 47) rfl dX7_insertRow_46 ?_
  refine zj_isubN (n := 48) rfl dX7_insertRow_47 (by omega) ?_
  refine zj_aload0 (n := 49) rfl dX7_insertRow_48 ?_
  refine zj_getiN (e := c) (n := 52) rfl dX7_insertRow_49 zf_X7_9 rfl hT.1.1 hT.1.2.1 hT.2.1 ?_
  refine zj_imulN (n := 53) rfl dX7_insertRow_52 ?_
  refine zj_copy (n := 56) rfl dX7_insertRow_53 zm_X7_39 (by decide) (Nat.le_of_ble_eq_true rfl) hT.1.2.2.1 hT.1.2.2.2 hT.1.2.2.1 hT.1.2.2.2 (nI_pos (by omega)) (nI_pos (by omega)) (nI_pos (by omega)) (by rw [nI_clamp (by omega), nI_clamp (by omega)]; omega) (by rw [nI_clamp (by omega), nI_clamp (by omega)]; omega) ?_
  refine zj_gen (fun M1 => (∀ a, a ≠ k + 1 → M1.1 a = M.1 a) ∧ M1.2 = M.2 ∧ M1.1 (k + 1) = va_cpy (M.1 (k + 1)) (M.1 (k + 1)) (row * c) (row * c + c) ((n - row) * c)) ⟨fun a ha => if_neg ha, rfl, (if_pos rfl).trans (by rw [nI_clamp (show row * c < 2 ^ 31 by omega), nI_clamp (show row * c + c < 2 ^ 31 by omega), nI_clamp (show (n - row) * c < 2 ^ 31 by omega)])⟩ (fun M1 h1 => ?_)
  obtain ⟨hC1, hC2, hC3⟩ := h1
  refine zj_aload0 (n := 57) rfl dX7_insertRow_56 ?_
  refine zj_dupr (n := 58) rfl dX7_insertRow_57 ?_
  refine zj_getiN (e := n) (n := 61) rfl dX7_insertRow_58 zf_X7_25 rfl hT.1.1 hT.1.2.1 (by rw [hC1 k (by omega)]; exact hT.2.2.2.1) ?_
  refine zj_iconstN_1 (n := 62) rfl dX7_insertRow_61 ?_
  refine zj_iaddN (n := 63) rfl dX7_insertRow_62 ?_
  refine zj_puti (n := 66) rfl dX7_insertRow_63 zp_X7_25 rfl hT.1.1 hT.1.2.1 ?_
  refine zj_iconstN_0 (n := 67) rfl dX7_insertRow_66 ?_
  refine zj_istore3 (n := 68) rfl dX7_insertRow_67 rfl (Nat.le_of_ble_eq_true rfl) ?_
  have hz0 : ∀ i, (zU M1.1 k 2 (nI (n + 1))) (k + 1) i = if row * c ≤ i ∧ i < row * c + 0 then nI 0 else va_cpy (M.1 (k + 1)) (M.1 (k + 1)) (row * c) (row * c + c) ((n - row) * c) i := fun i => by rw [zU_ne (by omega), hC3, if_neg (by omega)]
  refine zj_sub (l' := [some (.ref k), some (.int (nI row)), none, some (.int (nI 0))]) (by simp only [zLe, eq_self, and_true]) ?_
  refine zFor_rule (P := fun j (_ : Unit) => ∀ M2, (∀ a, a ≠ k → a ≠ k + 1 → M2.1 a = M.1 a) → M2.2 = M.2 → zTN M2 k c cap (n + 1) → (∀ i, M2.1 (k + 1) i = if row * c ≤ i ∧ i < row * c + j then nI 0 else va_cpy (M.1 (k + 1)) (M.1 (k + 1)) (row * c) (row * c + c) ((n - row) * c) i) → zJ yX7_insertRow cX7_insertRow 4 none rX7_insertRow Q X 0 0 68 [some (.ref k), some (.int (nI row)), none, some (.int (nI j))] [] M2) (n := c) (f := fun _ s => s) (s0 := ()) ?_ ?_ (zU M1.1 k 2 (nI (n + 1)), M1.2) (fun a h1 h2 => by dsimp only; rw [zU_off h1]; exact hC1 a h2) hC2 (hT.sz (by dsimp only; rw [zU_nj (by decide), hC1 k (by omega)]) (by dsimp only; exact zU_eq) (by omega)) hz0
  · intro j _ hj hk M2 hF2 hL2 hT2 hz2
    refine zj_iload3 (n := 69) rfl dX7_insertRow_68 ?_
    refine zj_aload0 (n := 70) rfl dX7_insertRow_69 ?_
    refine zj_getiN (e := c) (n := 73) rfl dX7_insertRow_70 zf_X7_9 rfl hT.1.1 hT.1.2.1 hT2.2.1 ?_
    refine zj_icmpN_ge (n := 76) (tgt := 89) rfl dX7_insertRow_73 (by decide) (by omega) (by omega) (fun c73 => by omega) (fun c73 => ?_)
    refine zj_aload0 (n := 77) rfl dX7_insertRow_76 ?_
    refine zj_iload1 (n := 78) rfl dX7_insertRow_77 ?_
    refine zj_iload3 (n := 79) rfl dX7_insertRow_78 ?_
    refine zj_iconstN_0 (n := 80) rfl dX7_insertRow_79 ?_
    refine zj_callV3 (n := 83) (a' := 0) (b' := 0) rfl dX7_insertRow_80 zm_X7_31 (by decide) hT.1.1 (by rw [hT.1.2.1]; rfl) (Nat.le_of_ble_eq_true rfl) (Nat.le_of_ble_eq_true rfl) (Nat.le_of_ble_eq_true rfl) (Nat.le_of_ble_eq_true rfl) (jT_set hT2 (show row < n + 1 by omega) hj ?_)
    refine zj_iincN3 (n := 86) rfl dX7_insertRow_83 rfl (Nat.le_of_ble_eq_true rfl) ?_
    refine zj_goto (tgt := 68) dX7_insertRow_86 (by decide) ?_
    exact hk (zU M2.1 (k + 1) (row * c + j) (nI 0), M2.2) (fun a h1 h2 => by dsimp only; rw [zU_off h2]; exact hF2 a h1 h2) hL2 (hT2.keep (by dsimp only; rw [zU_ne (by omega)]) (by dsimp only; rw [zU_ne (by omega)])) (fun i => by
      dsimp only
      by_cases e : i = row * c + j
      · subst e; rw [zU_eq, if_pos (by omega)]
      · rw [zU_nj e, hz2 i]
        by_cases q : row * c ≤ i ∧ i < row * c + j
        · rw [if_pos q, if_pos (by omega)]
        · rw [if_neg q, if_neg (by omega)])
  · intro M2 hF2 hL2 hT2 hz2
    refine zj_iload3 (n := 69) rfl dX7_insertRow_68 ?_
    refine zj_aload0 (n := 70) rfl dX7_insertRow_69 ?_
    refine zj_getiN (e := c) (n := 73) rfl dX7_insertRow_70 zf_X7_9 rfl hT.1.1 hT.1.2.1 hT2.2.1 ?_
    refine zj_icmpN_ge (n := 76) (tgt := 89) rfl dX7_insertRow_73 (by decide) (by omega) (by omega) (fun c73 => ?_) (fun c73 => by omega)
    exact zj_return dX7_insertRow_89 rfl (h M2 hF2 hL2 hT2 (fun j hj => by rw [hz2 j, if_neg (by omega)]; unfold va_cpy; rw [if_neg (by omega)]) (fun j hj => by rw [hz2 _, if_pos (by omega)]) (fun j h1 h2 => by rw [hz2 _, if_neg (by omega)]; unfold va_cpy; rw [if_pos (by omega)]; exact congrArg (M.1 (k + 1)) (by omega)))
theorem jX7_dropFirstRow {k c cap n : Nat} {Q : Option Value → zM → Prop} {X : String → zM → Prop} {M : zM} (hT : zTN M k c cap n) (hn : 0 < n) (h : ∀ M', (∀ a, a ≠ k → a ≠ k + 1 → M'.1 a = M.1 a) → M'.2 = M.2 → zTN M' k c cap (n - 1) → (∀ j, j < (n - 1) * c → M'.1 (k + 1) j = M.1 (k + 1) (c + j)) → Q none M') : zJ yX7_dropFirstRow cX7_dropFirstRow 1 none rX7_dropFirstRow Q X rX7_dropFirstRow.cells rX7_dropFirstRow.slots 0 (zEnt 1 [.ref k]) [] M := by
  obtain ⟨b1, b2, b3⟩ := hT.nlt
  have h3 := hT.2.2.1
  have h5 := hT.2.2.2.2.1
  have h7 := hT.2.2.2.2.2.2
  have e1 : (n - 1) * c = n * c - 1 * c := Nat.sub_mul n 1 c
  rw [Nat.one_mul] at e1
  have e2 : 1 * c ≤ n * c := Nat.mul_le_mul_right c hn
  rw [Nat.one_mul] at e2
  have e3 : n * c ≤ cap * c := Nat.mul_le_mul_right c h5
  rw [Nat.mul_comm cap c] at e3
  show zJ yX7_dropFirstRow cX7_dropFirstRow 1 none rX7_dropFirstRow Q X 0 0 0 [some (.ref k)] [] M
  refine zj_aload0 (n := 1) rfl dX7_dropFirstRow_0 ?_
  refine zj_getiN (e := n) (n := 4) rfl dX7_dropFirstRow_1 zf_X7_25 rfl hT.1.1 hT.1.2.1 hT.2.2.2.1 ?_
  refine zj_ifN_le (n := 7) (tgt := 61) rfl dX7_dropFirstRow_4 (by decide) (by omega) (fun c4 => (by omega)) (fun c4 => ?_)
  refine zj_aload0 (n := 8) rfl dX7_dropFirstRow_7 ?_
  refine zj_getiN (e := n) (n := 11) rfl dX7_dropFirstRow_8 zf_X7_25 rfl hT.1.1 hT.1.2.1 hT.2.2.2.1 ?_
  refine zj_aload0 (n := 12) rfl dX7_dropFirstRow_11 ?_
  refine zj_getiN (e := c) (n := 15) rfl dX7_dropFirstRow_12 zf_X7_9 rfl hT.1.1 hT.1.2.1 hT.2.1 ?_
  refine zj_imulN (n := 16) rfl dX7_dropFirstRow_15 ?_
  refine zj_aload0 (n := 17) rfl dX7_dropFirstRow_16 ?_
  refine zj_getr (n := 20) (q := k + 1) rfl dX7_dropFirstRow_17 zf_X7_21 rfl hT.1.1 hT.1.2.1 rfl ?_
  refine zj_arraylength (n := 21) (v := nI (zLen (k + 1))) rfl dX7_dropFirstRow_20 hT.1.2.2.1 (by first | exact Or.inl hT.1.2.2.2 | exact Or.inr (Or.inl hT.1.2.2.2) | exact Or.inr (Or.inr (Or.inl hT.1.2.2.2))) (by rw [if_neg (by rw [hT.1.2.2.2]; decide)]; rfl) ?_
  refine zj_icmpN_gt (n := 24) (tgt := 61) rfl dX7_dropFirstRow_21 (by decide) (by omega) (by omega) (fun c21 => (by omega)) (fun c21 => ?_)
  refine zj_aload0 (n := 25) rfl dX7_dropFirstRow_24 ?_
  refine zj_getr (n := 28) (q := k + 1) rfl dX7_dropFirstRow_25 zf_X7_21 rfl hT.1.1 hT.1.2.1 rfl ?_
  refine zj_aload0 (n := 29) rfl dX7_dropFirstRow_28 ?_
  refine zj_getiN (e := c) (n := 32) rfl dX7_dropFirstRow_29 zf_X7_9 rfl hT.1.1 hT.1.2.1 hT.2.1 ?_
  refine zj_aload0 (n := 33) rfl dX7_dropFirstRow_32 ?_
  refine zj_getr (n := 36) (q := k + 1) rfl dX7_dropFirstRow_33 zf_X7_21 rfl hT.1.1 hT.1.2.1 rfl ?_
  refine zj_iconstN_0 (n := 37) rfl dX7_dropFirstRow_36 ?_
  refine zj_aload0 (n := 38) rfl dX7_dropFirstRow_37 ?_
  refine zj_getiN (e := n) (n := 41) rfl dX7_dropFirstRow_38 zf_X7_25 rfl hT.1.1 hT.1.2.1 hT.2.2.2.1 ?_
  refine zj_iconstN_1 (n := 42) rfl dX7_dropFirstRow_41 ?_
  refine zj_isubN (n := 43) rfl dX7_dropFirstRow_42 (by omega) ?_
  refine zj_aload0 (n := 44) rfl dX7_dropFirstRow_43 ?_
  refine zj_getiN (e := c) (n := 47) rfl dX7_dropFirstRow_44 zf_X7_9 rfl hT.1.1 hT.1.2.1 hT.2.1 ?_
  refine zj_imulN (n := 48) rfl dX7_dropFirstRow_47 ?_
  refine zj_copy (n := 51) rfl dX7_dropFirstRow_48 zm_X7_39 (by decide) (Nat.le_of_ble_eq_true rfl) hT.1.2.2.1 hT.1.2.2.2 hT.1.2.2.1 hT.1.2.2.2 (nI_pos (by omega)) (nI_pos (by omega)) (nI_pos (by omega)) (by rw [nI_clamp (by omega), nI_clamp (by omega)]; omega) (by rw [nI_clamp (by omega), nI_clamp (by omega)]; omega) ?_
  refine zj_gen (fun M1 => (∀ a, a ≠ k + 1 → M1.1 a = M.1 a) ∧ M1.2 = M.2 ∧ M1.1 (k + 1) = va_cpy (M.1 (k + 1)) (M.1 (k + 1)) c 0 ((n - 1) * c)) ⟨fun a ha => if_neg ha, rfl, (if_pos rfl).trans (by rw [nI_clamp (show c < 2 ^ 31 by omega), nI_clamp (show 0 < 2 ^ 31 by omega), nI_clamp (show (n - 1) * c < 2 ^ 31 by omega)])⟩ (fun M1 h1 => ?_)
  obtain ⟨hC1, hC2, hC3⟩ := h1
  refine zj_aload0 (n := 52) rfl dX7_dropFirstRow_51 ?_
  refine zj_dupr (n := 53) rfl dX7_dropFirstRow_52 ?_
  refine zj_getiN (e := n) (n := 56) rfl dX7_dropFirstRow_53 zf_X7_25 rfl hT.1.1 hT.1.2.1 (by rw [hC1 k (by omega)]; exact hT.2.2.2.1) ?_
  refine zj_iconstN_1 (n := 57) rfl dX7_dropFirstRow_56 ?_
  refine zj_isubN (n := 58) rfl dX7_dropFirstRow_57 (by omega) ?_
  refine zj_puti (n := 61) rfl dX7_dropFirstRow_58 zp_X7_25 rfl hT.1.1 hT.1.2.1 ?_
  exact zj_return dX7_dropFirstRow_61 rfl (h (zU M1.1 k 2 (nI (n - 1)), M1.2) (fun a h1 h2 => by dsimp only; rw [zU_off h1]; exact hC1 a h2) hC2 (hT.sz (by dsimp only; rw [zU_nj (by decide), hC1 k (by omega)]) (by dsimp only; exact zU_eq) (by omega)) (fun j hj => by dsimp only; rw [zU_ne (by omega), hC3]; unfold va_cpy; rw [if_pos (by omega)]; congr 1))
theorem jX7_rowWith {k c cap n col : Nat} {x : Int32} {Q : Option Value → zM → Prop} {X : String → zM → Prop} {M : zM} (hT : zTN M k c cap n) (hc : col < c) (h : Q (some (.int (zo (zfo n (fun r => decide (M.1 (k + 1) (r * c + col) = x)))))) M) : zJ yX7_rowWith cX7_rowWith 4 (some .int) rX7_rowWith Q X rX7_rowWith.cells rX7_rowWith.slots 0 (zEnt 4 [.ref k, .int (nI col), .int x]) [] M := by
  obtain ⟨b1, b2, b3⟩ := hT.nlt
  show zJ yX7_rowWith cX7_rowWith 4 (some .int) rX7_rowWith Q X 0 0 0 [some (.ref k), some (.int (nI col)), some (.int x), none] [] M
  refine zj_iconstN_0 (n := 1) rfl dX7_rowWith_0 ?_
  refine zj_istore3 (n := 2) rfl dX7_rowWith_1 rfl (Nat.le_of_ble_eq_true rfl) ?_
  refine zFind_rule (P := fun r => zJ yX7_rowWith cX7_rowWith 4 (some .int) rX7_rowWith Q X 0 0 2 [some (.ref k), some (.int (nI col)), some (.int (x)), some (.int (nI r))] [] M) (n := n) (p := fun r => decide (M.1 (k + 1) (r * c + col) = x)) ?_ ?_
  · intro r hi_r hf_r hk_r
    refine zj_iload3 (n := 3) rfl dX7_rowWith_2 ?_
    refine zj_aload0 (n := 4) rfl dX7_rowWith_3 ?_
    refine zj_getiN (e := n) (n := 7) rfl dX7_rowWith_4 zf_X7_25 rfl hT.1.1 hT.1.2.1 hT.2.2.2.1 ?_
    refine zj_icmpN_ge (n := 10) (tgt := 28) rfl dX7_rowWith_7 (by decide) (by omega) (by omega) (fun c7 => by omega) (fun c7 => ?_)
    refine zj_aload0 (n := 11) rfl dX7_rowWith_10 ?_
    refine zj_iload3 (n := 12) rfl dX7_rowWith_11 ?_
    refine zj_iload1 (n := 13) rfl dX7_rowWith_12 ?_
    refine zj_callV2 (n := 16) (a' := 0) (b' := 0) rfl dX7_rowWith_13 zm_X7_28 (by decide) hT.1.1 (by rw [hT.1.2.1]; rfl) (Nat.le_of_ble_eq_true rfl) (Nat.le_of_ble_eq_true rfl) (Nat.le_of_ble_eq_true rfl) (Nat.le_of_ble_eq_true rfl) (jT_getI hT hi_r hc rfl ?_)
    refine zj_iload2 (n := 17) rfl dX7_rowWith_16 ?_
    refine zj_icmp_ne (n := 20) (tgt := 22) rfl dX7_rowWith_17 (by decide) (fun c17 => ?_) (fun c17 => ?_)
    · refine zj_iincN3 (n := 25) rfl dX7_rowWith_22 rfl (Nat.le_of_ble_eq_true rfl) ?_
      refine zj_goto (tgt := 2) dX7_rowWith_25 (by decide) ?_
      exact hk_r (decide_eq_false c17)
    · refine zj_iload3 (n := 21) rfl dX7_rowWith_20 ?_
      refine zj_ireturn dX7_rowWith_21 rfl rfl ?_
      rw [zfo_some hi_r (decide_eq_true c17) hf_r] at h
      exact h
  · intro hf_r
    refine zj_iload3 (n := 3) rfl dX7_rowWith_2 ?_
    refine zj_aload0 (n := 4) rfl dX7_rowWith_3 ?_
    refine zj_getiN (e := n) (n := 7) rfl dX7_rowWith_4 zf_X7_25 rfl hT.1.1 hT.1.2.1 hT.2.2.2.1 ?_
    refine zj_icmpN_ge (n := 10) (tgt := 28) rfl dX7_rowWith_7 (by decide) (by omega) (by omega) (fun c7 => ?_) (fun c7 => by omega)
    refine zj_iconst_m1 (n := 29) rfl dX7_rowWith_28 ?_
    refine zj_ireturn dX7_rowWith_29 rfl rfl ?_
    rw [zfo_none hf_r] at h
    exact h
theorem jX7_named {k c cap n : Nat} {x : Int32} {Q : Option Value → zM → Prop} {X : String → zM → Prop} {M : zM} (hT : zTN M k c cap n) (h : Q (some (.int (zo (zfo n (fun r => decide (M.1 (k + 1) (r * c + (c - 1)) = x)))))) M) : zJ yX7_named cX7_named 2 (some .int) rX7_named Q X rX7_named.cells rX7_named.slots 0 (zEnt 2 [.ref k, .int x]) [] M := by
  obtain ⟨b1, b2, b3⟩ := hT.nlt
  have h6 := hT.2.2.2.2.2.1
  show zJ yX7_named cX7_named 2 (some .int) rX7_named Q X 0 0 0 [some (.ref k), some (.int x)] [] M
  refine zj_aload0 (n := 1) rfl dX7_named_0 ?_
  refine zj_aload0 (n := 2) rfl dX7_named_1 ?_
  refine zj_getiN (e := c) (n := 5) rfl dX7_named_2 zf_X7_9 rfl hT.1.1 hT.1.2.1 hT.2.1 ?_
  refine zj_iconstN_1 (n := 6) rfl dX7_named_5 ?_
  refine zj_isubN (n := 7) rfl dX7_named_6 (by omega) ?_
  refine zj_iload1 (n := 8) rfl dX7_named_7 ?_
  refine zj_callV2 (n := 11) (a' := 0) (b' := 0) rfl dX7_named_8 zm_X7_49 (by decide) hT.1.1 (by rw [hT.1.2.1]; rfl) (Nat.le_of_ble_eq_true rfl) (Nat.le_of_ble_eq_true rfl) (Nat.le_of_ble_eq_true rfl) (Nat.le_of_ble_eq_true rfl) (jX7_rowWith hT (show c - 1 < c by omega) ?_)
  exact zj_ireturn dX7_named_11 rfl rfl h
theorem jX7_nameOf {k c cap n row e : Nat} {Q : Option Value → zM → Prop} {X : String → zM → Prop} {M : zM} (hT : zTN M k c cap n) (hr : row < n) (he : M.1 (k + 1) (row * c + (c - 1)) = nI e) (h : Q (some (.int (nI e))) M) : zJ yX7_nameOf cX7_nameOf 2 (some .int) rX7_nameOf Q X rX7_nameOf.cells rX7_nameOf.slots 0 (zEnt 2 [.ref k, .int (nI row)]) [] M := by
  obtain ⟨b1, b2, b3⟩ := hT.nlt
  have h6 := hT.2.2.2.2.2.1
  show zJ yX7_nameOf cX7_nameOf 2 (some .int) rX7_nameOf Q X 0 0 0 [some (.ref k), some (.int (nI row))] [] M
  refine zj_aload0 (n := 1) rfl dX7_nameOf_0 ?_
  refine zj_iload1 (n := 2) rfl dX7_nameOf_1 ?_
  refine zj_aload0 (n := 3) rfl dX7_nameOf_2 ?_
  refine zj_getiN (e := c) (n := 6) rfl dX7_nameOf_3 zf_X7_9 rfl hT.1.1 hT.1.2.1 hT.2.1 ?_
  refine zj_iconstN_1 (n := 7) rfl dX7_nameOf_6 ?_
  refine zj_isubN (n := 8) rfl dX7_nameOf_7 (by omega) ?_
  refine zj_callV2 (n := 11) (a' := 0) (b' := 0) rfl dX7_nameOf_8 zm_X7_28 (by decide) hT.1.1 (by rw [hT.1.2.1]; rfl) (Nat.le_of_ble_eq_true rfl) (Nat.le_of_ble_eq_true rfl) (Nat.le_of_ble_eq_true rfl) (Nat.le_of_ble_eq_true rfl) (jT_get hT hr (show c - 1 < c by omega) he ?_)
  exact zj_ireturn dX7_nameOf_11 rfl rfl h
theorem jX7_addNamed {k c cap n : Nat} {x : Int32} {Q : Option Value → zM → Prop} {X : String → zM → Prop} {M : zM} (hT : zTN M k c cap n) (hn : n < cap) (h : ∀ M', (∀ a, a ≠ k → a ≠ k + 1 → M'.1 a = M.1 a) → M'.2 = M.2 → zTN M' k c cap (n + 1) → (∀ j, j < n * c → M'.1 (k + 1) j = M.1 (k + 1) j) → (∀ j, j < c - 1 → M'.1 (k + 1) (n * c + j) = nI 0) → M'.1 (k + 1) (n * c + (c - 1)) = x → Q (some (.int (nI n))) M') : zJ yX7_addNamed cX7_addNamed 3 (some .int) rX7_addNamed Q X rX7_addNamed.cells rX7_addNamed.slots 0 (zEnt 3 [.ref k, .int x]) [] M := by
  obtain ⟨b1, b2, b3⟩ := hT.nlt
  have h6 := hT.2.2.2.2.2.1
  show zJ yX7_addNamed cX7_addNamed 3 (some .int) rX7_addNamed Q X 0 0 0 [some (.ref k), some (.int x), none] [] M
  refine zj_aload0 (n := 1) rfl dX7_addNamed_0 ?_
  refine zj_getiN (e := n) (n := 4) rfl dX7_addNamed_1 zf_X7_25 rfl hT.1.1 hT.1.2.1 hT.2.2.2.1 ?_
  refine zj_istore2 (n := 5) rfl dX7_addNamed_4 rfl (Nat.le_of_ble_eq_true rfl) ?_
  refine zj_aload0 (n := 6) rfl dX7_addNamed_5 ?_
  refine zj_iload2 (n := 7) rfl dX7_addNamed_6 ?_
  refine zj_callV1 (n := 10) (a' := 0) (b' := 0) rfl dX7_addNamed_7 zm_X7_45 (by decide) hT.1.1 (by rw [hT.1.2.1]; rfl) (Nat.le_of_ble_eq_true rfl) (Nat.le_of_ble_eq_true rfl) (Nat.le_of_ble_eq_true rfl) (Nat.le_of_ble_eq_true rfl) (jX7_insertRow hT (Nat.le_refl n) hn ?_)
  intro M2 hF2 hL2 hT2 hz1 hz2 hz3
  refine zj_aload0 (n := 11) rfl dX7_addNamed_10 ?_
  refine zj_iload2 (n := 12) rfl dX7_addNamed_11 ?_
  refine zj_aload0 (n := 13) rfl dX7_addNamed_12 ?_
  refine zj_getiN (e := c) (n := 16) rfl dX7_addNamed_13 zf_X7_9 rfl hT.1.1 hT.1.2.1 hT2.2.1 ?_
  refine zj_iconstN_1 (n := 17) rfl dX7_addNamed_16 ?_
  refine zj_isubN (n := 18) rfl dX7_addNamed_17 (by omega) ?_
  refine zj_iload1 (n := 19) rfl dX7_addNamed_18 ?_
  refine zj_callV3 (n := 22) (a' := 0) (b' := 0) rfl dX7_addNamed_19 zm_X7_31 (by decide) hT.1.1 (by rw [hT.1.2.1]; rfl) (Nat.le_of_ble_eq_true rfl) (Nat.le_of_ble_eq_true rfl) (Nat.le_of_ble_eq_true rfl) (Nat.le_of_ble_eq_true rfl) (jT_set hT2 (show n < n + 1 by omega) (show c - 1 < c by omega) ?_)
  refine zj_iload2 (n := 23) rfl dX7_addNamed_22 ?_
  exact zj_ireturn dX7_addNamed_23 rfl rfl (h (zU M2.1 (k + 1) (n * c + (c - 1)) x, M2.2) (fun a h1 h2 => by dsimp only; rw [zU_off h2]; exact hF2 a h1 h2) hL2 (hT2.keep (by dsimp only; rw [zU_ne (by omega)]) (by dsimp only; rw [zU_ne (by omega)])) (fun j hj => by dsimp only; rw [zU_nj (by omega)]; exact hz1 j hj) (fun j hj => by dsimp only; rw [zU_nj (by omega)]; exact hz2 j (by omega)) (by dsimp only; exact zU_eq))
theorem jX7_copyFrom {k q : Nat} {Q : Option Value → zM → Prop} {X : String → zM → Prop} {M : zM} (hT : zTb k) (hT2 : zTb q) (hl : zLen (q + 1) = zLen (k + 1)) (h : ∀ M', (∀ a, a ≠ k → a ≠ k + 1 → M'.1 a = M.1 a) → M'.2 = M.2 → M'.1 k 0 = M.1 k 0 → M'.1 k 2 = M.1 q 2 → (∀ j, j < zLen (k + 1) → M'.1 (k + 1) j = M.1 (q + 1) j) → Q none M') : zJ yX7_copyFrom cX7_copyFrom 2 none rX7_copyFrom Q X rX7_copyFrom.cells rX7_copyFrom.slots 0 (zEnt 2 [.ref k, .ref q]) [] M := by
  have h6 := zLen_lt7 (k + 1)
  have hne : q + 1 ≠ k := fun e => by have h8 := hT2.2.2.2; rw [e, hT.2.1] at h8; cases h8
  show zJ yX7_copyFrom cX7_copyFrom 2 none rX7_copyFrom Q X 0 0 0 [some (.ref k), some (.ref q)] [] M
  refine zj_aload0 (n := 1) rfl dX7_copyFrom_0 ?_
  refine zj_aload1 (n := 2) rfl dX7_copyFrom_1 ?_
  refine zj_geti (n := 5) rfl dX7_copyFrom_2 zf_X7_25 rfl hT2.1 hT2.2.1 ?_
  refine zj_puti (n := 8) rfl dX7_copyFrom_5 zp_X7_25 rfl hT.1 hT.2.1 ?_
  refine zj_aload1 (n := 9) rfl dX7_copyFrom_8 ?_
  refine zj_getr (n := 12) (q := q + 1) rfl dX7_copyFrom_9 zf_X7_21 rfl hT2.1 hT2.2.1 rfl ?_
  refine zj_iconstN_0 (n := 13) rfl dX7_copyFrom_12 ?_
  refine zj_aload0 (n := 14) rfl dX7_copyFrom_13 ?_
  refine zj_getr (n := 17) (q := k + 1) rfl dX7_copyFrom_14 zf_X7_21 rfl hT.1 hT.2.1 rfl ?_
  refine zj_iconstN_0 (n := 18) rfl dX7_copyFrom_17 ?_
  refine zj_aload1 (n := 19) rfl dX7_copyFrom_18 ?_
  refine zj_getr (n := 22) (q := q + 1) rfl dX7_copyFrom_19 zf_X7_21 rfl hT2.1 hT2.2.1 rfl ?_
  refine zj_arraylength (n := 23) (v := nI (zLen (q + 1))) rfl dX7_copyFrom_22 hT2.2.2.1 (Or.inl hT2.2.2.2) (by rw [if_neg (by rw [hT2.2.2.2]; decide)]; rfl) ?_
  refine zj_aload0 (n := 24) rfl dX7_copyFrom_23 ?_
  refine zj_getr (n := 27) (q := k + 1) rfl dX7_copyFrom_24 zf_X7_21 rfl hT.1 hT.2.1 rfl ?_
  refine zj_arraylength (n := 28) (v := nI (zLen (k + 1))) rfl dX7_copyFrom_27 hT.2.2.1 (Or.inl hT.2.2.2) (by rw [if_neg (by rw [hT.2.2.2]; decide)]; rfl) ?_
  refine zj_iminN (n := 31) rfl dX7_copyFrom_28 zm_X7_52 (by decide) (Nat.le_of_ble_eq_true rfl) (by omega) (by omega) ?_
  refine zj_copy (n := 34) rfl dX7_copyFrom_31 zm_X7_39 (by decide) (Nat.le_of_ble_eq_true rfl) hT2.2.2.1 hT2.2.2.2 hT.2.2.1 hT.2.2.2 (nI_pos (by omega)) (nI_pos (by omega)) (nI_pos (by omega)) (by rw [nI_clamp (by omega), nI_clamp (by omega)]; omega) (by rw [nI_clamp (by omega), nI_clamp (by omega)]; omega) ?_
  exact zj_return dX7_copyFrom_34 rfl (h _ (fun a h1 h2 => by dsimp only; rw [if_neg h2, zU_off h1]) rfl (by dsimp only; rw [if_neg (by omega), zU_nj (by decide)]) (by dsimp only; rw [if_neg (by omega), zU_eq]) (fun j hj => by
  dsimp only
  rw [if_pos rfl, zU_off hne, nI_clamp (show 0 < 2 ^ 31 by omega), nI_clamp (show min (zLen (q + 1)) (zLen (k + 1)) < 2 ^ 31 by omega)]
  unfold va_cpy
  rw [if_pos (by omega)]
  exact congrArg (M.1 (q + 1)) (by omega)))
