/-! BYTES -/
def zsx (b : Nat) : Int32 := vp_nar .byte (nI b)
def zby (x : Int32) : Nat := x.toUInt32.toNat % 256
theorem zby_lt (x : Int32) : zby x < 256 := Nat.mod_lt _ (by decide)
theorem zsx_i2b (x : Int32) : vp_nar .byte x.toInt8.toInt32 = zsx (zby x) := by
  have e : x.toInt8 = (nI (zby x)).toInt8 := by
    apply Int8.toBitVec_inj.mp
    show x.toBitVec.signExtend 8 = (BitVec.ofNat 32 (zby x)).signExtend 8
    rw [BitVec.signExtend_eq_setWidth_of_le _ (by decide), BitVec.signExtend_eq_setWidth_of_le _ (by decide)]
    apply BitVec.eq_of_toNat_eq
    rw [BitVec.toNat_setWidth, BitVec.toNat_setWidth, BitVec.toNat_ofNat]
    show x.toBitVec.toNat % 2 ^ 8 = x.toBitVec.toNat % 256 % 2 ^ 32 % 2 ^ 8
    omega
  have i8 : ∀ y : Int8, y.toInt32.toInt8 = y := fun y => Int8.toInt8_toInt32 y
  show ((x.toInt8.toInt32).toInt8).toInt32 = (nI (zby x)).toInt8.toInt32
  rw [i8, e]
theorem zsx_and : ∀ b, b < 256 → zsx b &&& nI 255 = nI b := by decide +kernel
theorem zsx_small : ∀ b, b < 128 → zsx b = nI b := by decide +kernel
theorem zsx_neg : ∀ b, b < 256 → 128 ≤ b → zsx b < 0 := by decide +kernel
theorem zsx_eq {b k : Nat} (hb : b < 256) (hk : k < 128) : zsx b = nI k ↔ b = k := by
  by_cases h : b < 128
  · rw [zsx_small b h]; exact nI_eq (by omega) (by omega)
  · constructor
    · intro e
      have h1 := zsx_neg b hb (by omega)
      rw [e] at h1
      exact absurd h1 (nI_lt0 (by omega))
    · intro e; omega
def zBf (M : zM) (k n : Nat) (B : Nat → Nat) : Prop := ∀ j, j < n → B j < 256 ∧ M.1 k j = zsx (B j)
def zBy (M : zM) (k n : Nat) (B : Nat → Nat) : Prop := (k = 100 ∨ k = 102) ∧ M.1 k 1 = nI n ∧ n ≤ zLen (k + 1) ∧ zBf M (k + 1) n B
theorem zBy.lt {M : zM} {k n : Nat} {B : Nat → Nat} (h : zBy M k n B) : k < 133 := by rcases h.1 with rfl | rfl <;> decide
theorem zBy.ty {M : zM} {k n : Nat} {B : Nat → Nat} (h : zBy M k n B) : zTy k = 1 := by rcases h.1 with rfl | rfl <;> decide
theorem zBy.lt1 {M : zM} {k n : Nat} {B : Nat → Nat} (h : zBy M k n B) : k + 1 < 133 := by rcases h.1 with rfl | rfl <;> decide
theorem zBy.ty1 {M : zM} {k n : Nat} {B : Nat → Nat} (h : zBy M k n B) : zTy (k + 1) = 21 := by rcases h.1 with rfl | rfl <;> decide
theorem zBy.b {M : zM} {k n j : Nat} {B : Nat → Nat} (h : zBy M k n B) (hj : j < n) : B j < 256 := (h.2.2.2 j hj).1
theorem zBy.at {M : zM} {k n j : Nat} {B : Nat → Nat} (h : zBy M k n B) (hj : j < n) : M.1 (k + 1) j = zsx (B j) := (h.2.2.2 j hj).2
theorem zBf.cg {M M' : zM} {k n : Nat} {B : Nat → Nat} (h : zBf M k n B) (e : M'.1 k = M.1 k) : zBf M' k n B := fun j hj => ⟨(h j hj).1, by rw [e]; exact (h j hj).2⟩
theorem zBy.cg {M M' : zM} {k n : Nat} {B : Nat → Nat} (h : zBy M k n B) (e : M'.1 k = M.1 k) (e1 : M'.1 (k + 1) = M.1 (k + 1)) : zBy M' k n B := ⟨h.1, by rw [e]; exact h.2.1, h.2.2.1, h.2.2.2.cg e1⟩
theorem zBy.cut {M M' : zM} {k n m : Nat} {B : Nat → Nat} (h : zBy M k n B) (hm : m ≤ n) (e : M'.1 k 1 = nI m) (e1 : M'.1 (k + 1) = M.1 (k + 1)) : zBy M' k m B := ⟨h.1, e, Nat.le_trans hm h.2.2.1, fun j hj => ⟨(h.2.2.2 j (by omega)).1, by rw [e1]; exact (h.2.2.2 j (by omega)).2⟩⟩
def tpush (B : Nat → Nat) (n b : Nat) : Nat → Nat := fun j => if j = n then b else B j
theorem zBf.push {M : zM} {k n b : Nat} {B : Nat → Nat} {x : Int32} (h : zBf M k n B) (hb : b < 256) (e : x = zsx b) : zBf (zU M.1 k n x, M.2) k (n + 1) (tpush B n b) := fun j hj => by
  unfold tpush
  by_cases q : j = n
  · subst q
    rw [if_pos rfl]
    exact ⟨hb, by rw [← e]; exact zU_eq⟩
  · rw [if_neg q]
    refine ⟨(h j (by omega)).1, ?_⟩
    show zU M.1 k n x k j = _
    rw [zU_nj q]
    exact (h j (by omega)).2
theorem zBy.push {M : zM} {k n : Nat} {B : Nat → Nat} {x : Int32} (h : zBy M k n B) (hn : n < zLen (k + 1)) : zBy (zU (zU M.1 (k + 1) n (vp_nar .byte x.toInt8.toInt32)) k 1 (nI (n + 1)), M.2) k (n + 1) (tpush B n (zby x)) := ⟨h.1, zU_eq, hn, ((h.2.2.2.push (zby_lt x) (zsx_i2b x)).cg (M' := (zU (zU M.1 (k + 1) n (vp_nar .byte x.toInt8.toInt32)) k 1 (nI (n + 1)), M.2)) (zU_off (by omega)))⟩
def tfour (B : Nat → Nat) (n : Nat) (x : Int32) : Nat → Nat := tpush (tpush (tpush (tpush B n (zby (x >>> (nI 24 &&& 31)))) (n + 1) (zby (x >>> (nI 16 &&& 31)))) (n + 1 + 1) (zby (x >>> (nI 8 &&& 31)))) (n + 1 + 1 + 1) (zby (x >>> (nI 0 &&& 31)))
def tapp (B : Nat → Nat) (n : Nat) (x1 x2 x3 x4 x5 : Int32) : Nat → Nat := tfour (tfour (tfour (tfour (tfour B n x1) (n + 4) x2) (n + 4 + 4) x3) (n + 4 + 4 + 4) x4) (n + 4 + 4 + 4 + 4) x5
section Z73
variable {G : zGx} {y : MethodName} {cc : ByteArray} {nL : Nat} {ret : Option FieldType} {R : Room} {Q : Option Value → zM → Prop} {X : String → zM → Prop} {a b pc n : Nat} {l : List (Option Value)} {st : List Value} {M : zM}
theorem zj_baloadW {x : Int32} {k j : Nat} (hn : pc + 1 = n) (hd : decode cc pc = .ok (.baload, 1)) (hk : k < 133) (ht : zTy k = 21) (hj : j < zLen k) (he : M.1 k j = x) (k9 : zJG G y cc nL ret R Q X a b n l (.int x :: st) M) : zJG G y cc nL ret R Q X a b pc l (.int (nI j) :: .ref k :: st) M := zj_baloadV hn hd hk ht hj (by rw [he]; exact k9)
end Z73
theorem jX1_at {k n : Nat} {B : Nat → Nat} {j : Nat} {Q : Option Value → zM → Prop} {X : String → zM → Prop} {M : zM} (hB : zBy M k n B) (hj : j < 2 ^ 31) (h : Q (some (.int (nI (if j < n then B j else 0)))) M) : zJ yX1_at cX1_at 2 (some .int) rX1_at Q X rX1_at.cells rX1_at.slots 0 (zEnt 2 [.ref k, .int (nI j)]) [] M := by
  have hl := hB.2.2.1
  have hl9 := zLen_lt (k + 1)
  show zJ yX1_at cX1_at 2 (some .int) rX1_at Q X 0 0 0 [some (.ref k), some (.int (nI j))] [] M
  refine zj_iload1 (n := 1) rfl dX1_at_0 ?_
  refine zj_ifN_lt (n := 4) (tgt := 34) rfl dX1_at_1 (by decide) (by omega) ?_
  refine zj_iload1 (n := 5) rfl dX1_at_4 ?_
  refine zj_aload0 (n := 6) rfl dX1_at_5 ?_
  refine zj_getiN (e := n) (n := 9) rfl dX1_at_6 zf_X1_21 rfl hB.lt hB.ty hB.2.1 ?_
  refine zj_icmpN_ge (n := 12) (tgt := 34) rfl dX1_at_9 (by decide) (by omega) (by omega) (fun c9 => ?_) (fun c9 => ?_)
  · refine zj_iconstN_0 (n := 35) rfl dX1_at_34 ?_
    refine zj_ireturn dX1_at_35 rfl rfl ?_
    rw [if_neg (by omega)] at h
    exact h
  · refine zj_iload1 (n := 13) rfl dX1_at_12 ?_
    refine zj_aload0 (n := 14) rfl dX1_at_13 ?_
    refine zj_getr (n := 17) (q := k + 1) rfl dX1_at_14 zf_X1_15 rfl hB.lt hB.ty rfl ?_
    refine zj_arraylength (n := 18) (v := nI (zLen (k + 1))) rfl dX1_at_17 hB.lt1 (by first | exact Or.inl hB.ty1 | exact Or.inr (Or.inl hB.ty1) | exact Or.inr (Or.inr (Or.inl hB.ty1))) (by rw [if_neg (by rw [hB.ty1]; decide)]; rfl) ?_
    refine zj_icmpN_ge (n := 21) (tgt := 34) rfl dX1_at_18 (by decide) (by omega) (by omega) (fun c18 => by omega) (fun c18 => ?_)
    refine zj_aload0 (n := 22) rfl dX1_at_21 ?_
    refine zj_getr (n := 25) (q := k + 1) rfl dX1_at_22 zf_X1_15 rfl hB.lt hB.ty rfl ?_
    refine zj_iload1 (n := 26) rfl dX1_at_25 ?_
    refine zj_baloadW (x := zsx (B j)) (n := 27) rfl dX1_at_26 hB.lt1 hB.ty1 (by omega) (hB.at (by omega)) ?_
    refine zj_sipushN (v := 255) (n := 30) rfl dX1_at_27 (by decide) ?_
    refine zj_iand (n := 31) rfl dX1_at_30 ?_
    rw [zsx_and _ (hB.b (by omega))]
    refine zj_goto (tgt := 35) dX1_at_31 (by decide) ?_
    refine zj_ireturn dX1_at_35 rfl rfl ?_
    rw [if_pos (by omega)] at h
    exact h
theorem jX1_cut {k m : Nat} {Q : Option Value → zM → Prop} {X : String → zM → Prop} {M : zM} (hk : k = 100 ∨ k = 102) (h : Q none (zU M.1 k 1 (nI m), M.2)) : zJ yX1_cut cX1_cut 2 none rX1_cut Q X rX1_cut.cells rX1_cut.slots 0 (zEnt 2 [.ref k, .int (nI m)]) [] M := by
  show zJ yX1_cut cX1_cut 2 none rX1_cut Q X 0 0 0 [some (.ref k), some (.int (nI m))] [] M
  refine zj_aload0 (n := 1) rfl dX1_cut_0 ?_
  refine zj_iload1 (n := 2) rfl dX1_cut_1 ?_
  refine zj_puti (n := 5) rfl dX1_cut_2 zp_X1_21 rfl (by omega) (by rcases hk with rfl | rfl <;> decide) ?_
  exact zj_return dX1_cut_5 rfl h
theorem jX1_add {k n : Nat} {B : Nat → Nat} {x : Int32} {Q : Option Value → zM → Prop} {X : String → zM → Prop} {M : zM} (hB : zBy M k n B) (hn : n < zLen (k + 1)) (h : ∀ M', zBy M' k (n + 1) (tpush B n (zby x)) → (∀ a, a ≠ k → a ≠ k + 1 → M'.1 a = M.1 a) → M'.2 = M.2 → Q none M') : zJ yX1_add cX1_add 2 none rX1_add Q X rX1_add.cells rX1_add.slots 0 (zEnt 2 [.ref k, .int x]) [] M := by
  have hl := hB.2.2.1
  have hl9 := zLen_lt (k + 1)
  show zJ yX1_add cX1_add 2 none rX1_add Q X 0 0 0 [some (.ref k), some (.int x)] [] M
  refine zj_aload0 (n := 1) rfl dX1_add_0 ?_
  refine zj_getiN (e := n) (n := 4) rfl dX1_add_1 zf_X1_21 rfl hB.lt hB.ty hB.2.1 ?_
  refine zj_ifN_lt (n := 7) (tgt := 40) rfl dX1_add_4 (by decide) (by omega) ?_
  refine zj_aload0 (n := 8) rfl dX1_add_7 ?_
  refine zj_getiN (e := n) (n := 11) rfl dX1_add_8 zf_X1_21 rfl hB.lt hB.ty hB.2.1 ?_
  refine zj_aload0 (n := 12) rfl dX1_add_11 ?_
  refine zj_getr (n := 15) (q := k + 1) rfl dX1_add_12 zf_X1_15 rfl hB.lt hB.ty rfl ?_
  refine zj_arraylength (n := 16) (v := nI (zLen (k + 1))) rfl dX1_add_15 hB.lt1 (by first | exact Or.inl hB.ty1 | exact Or.inr (Or.inl hB.ty1) | exact Or.inr (Or.inr (Or.inl hB.ty1))) (by rw [if_neg (by rw [hB.ty1]; decide)]; rfl) ?_
  refine zj_icmpN_ge (n := 19) (tgt := 40) rfl dX1_add_16 (by decide) (by omega) (by omega) (fun c16 => by omega) (fun c16 => ?_)
  refine zj_aload0 (n := 20) rfl dX1_add_19 ?_
  refine zj_getr (n := 23) (q := k + 1) rfl dX1_add_20 zf_X1_15 rfl hB.lt hB.ty rfl ?_
  refine zj_aload0 (n := 24) rfl dX1_add_23 ?_
  refine zj_getiN (e := n) (n := 27) rfl dX1_add_24 zf_X1_21 rfl hB.lt hB.ty hB.2.1 ?_
  refine zj_iload1 (n := 28) rfl dX1_add_27 ?_
  refine zj_i2b (n := 29) rfl dX1_add_28 ?_
  refine zj_bastoreN (n := 30) rfl dX1_add_29 hB.lt1 hB.ty1 (by omega) ?_
  refine zj_aload0 (n := 31) rfl dX1_add_30 ?_
  refine zj_dupr (n := 32) rfl dX1_add_31 ?_
  refine zj_getiN (e := n) (n := 35) rfl dX1_add_32 zf_X1_21 rfl hB.lt hB.ty (by dsimp only; rw [zU_off (by omega)]; exact hB.2.1) ?_
  refine zj_iconstN_1 (n := 36) rfl dX1_add_35 ?_
  refine zj_iaddN (n := 37) rfl dX1_add_36 ?_
  refine zj_puti (n := 40) rfl dX1_add_37 zp_X1_21 rfl hB.lt hB.ty ?_
  exact zj_return dX1_add_40 rfl (h _ (hB.push hn) (fun a h1 h2 => by dsimp only; rw [zU_off h1, zU_off h2]) rfl)
theorem jX1_addFour {k n : Nat} {B : Nat → Nat} {x : Int32} {Q : Option Value → zM → Prop} {X : String → zM → Prop} {M : zM} (hB : zBy M k n B) (hn : n + 4 ≤ zLen (k + 1)) (h : ∀ M', zBy M' k (n + 4) (tfour B n x) → (∀ a, a ≠ k → a ≠ k + 1 → M'.1 a = M.1 a) → M'.2 = M.2 → Q none M') : zJ yX1_addFour cX1_addFour 3 none rX1_addFour Q X rX1_addFour.cells rX1_addFour.slots 0 (zEnt 3 [.ref k, .int x]) [] M := by
  have hl := hB.2.2.1
  have hl9 := zLen_lt (k + 1)
  show zJ yX1_addFour cX1_addFour 3 none rX1_addFour Q X 0 0 0 [some (.ref k), some (.int x), none] [] M
  refine zj_bipushN (v := 24) (n := 2) rfl dX1_addFour_0 (by decide) ?_
  refine zj_istore2 (n := 3) rfl dX1_addFour_2 rfl (Nat.le_of_ble_eq_true rfl) ?_
  refine zj_iload2 (n := 4) rfl dX1_addFour_3 ?_
  refine zj_ifN_lt (n := 7) (tgt := 20) rfl dX1_addFour_4 (by decide) (by omega) ?_
  refine zj_aload0 (n := 8) rfl dX1_addFour_7 ?_
  refine zj_iload1 (n := 9) rfl dX1_addFour_8 ?_
  refine zj_iload2 (n := 10) rfl dX1_addFour_9 ?_
  refine zj_ishr (n := 11) rfl dX1_addFour_10 ?_
  refine zj_callV1 (n := 14) (a' := 0) (b' := 0) rfl dX1_addFour_11 zm_X1_25 (by decide) hB.lt (by rw [hB.ty]; rfl) (Nat.le_of_ble_eq_true rfl) (Nat.le_of_ble_eq_true rfl) (Nat.le_of_ble_eq_true rfl) (Nat.le_of_ble_eq_true rfl) (jX1_add hB (by omega) ?_)
  intro M1 hB1 hF1 hs1
  refine zj_iinc2 (v := nI 16) (n := 17) rfl dX1_addFour_14 rfl (by decide) (Nat.le_of_ble_eq_true rfl) ?_
  refine zj_goto (tgt := 3) dX1_addFour_17 (by decide) ?_
  refine zj_iload2 (n := 4) rfl dX1_addFour_3 ?_
  refine zj_ifN_lt (n := 7) (tgt := 20) rfl dX1_addFour_4 (by decide) (by omega) ?_
  refine zj_aload0 (n := 8) rfl dX1_addFour_7 ?_
  refine zj_iload1 (n := 9) rfl dX1_addFour_8 ?_
  refine zj_iload2 (n := 10) rfl dX1_addFour_9 ?_
  refine zj_ishr (n := 11) rfl dX1_addFour_10 ?_
  refine zj_callV1 (n := 14) (a' := 0) (b' := 0) rfl dX1_addFour_11 zm_X1_25 (by decide) hB.lt (by rw [hB.ty]; rfl) (Nat.le_of_ble_eq_true rfl) (Nat.le_of_ble_eq_true rfl) (Nat.le_of_ble_eq_true rfl) (Nat.le_of_ble_eq_true rfl) (jX1_add hB1 (by omega) ?_)
  intro M2 hB2 hF2 hs2
  refine zj_iinc2 (v := nI 8) (n := 17) rfl dX1_addFour_14 rfl (by decide) (Nat.le_of_ble_eq_true rfl) ?_
  refine zj_goto (tgt := 3) dX1_addFour_17 (by decide) ?_
  refine zj_iload2 (n := 4) rfl dX1_addFour_3 ?_
  refine zj_ifN_lt (n := 7) (tgt := 20) rfl dX1_addFour_4 (by decide) (by omega) ?_
  refine zj_aload0 (n := 8) rfl dX1_addFour_7 ?_
  refine zj_iload1 (n := 9) rfl dX1_addFour_8 ?_
  refine zj_iload2 (n := 10) rfl dX1_addFour_9 ?_
  refine zj_ishr (n := 11) rfl dX1_addFour_10 ?_
  refine zj_callV1 (n := 14) (a' := 0) (b' := 0) rfl dX1_addFour_11 zm_X1_25 (by decide) hB.lt (by rw [hB.ty]; rfl) (Nat.le_of_ble_eq_true rfl) (Nat.le_of_ble_eq_true rfl) (Nat.le_of_ble_eq_true rfl) (Nat.le_of_ble_eq_true rfl) (jX1_add hB2 (by omega) ?_)
  intro M3 hB3 hF3 hs3
  refine zj_iinc2 (v := nI 0) (n := 17) rfl dX1_addFour_14 rfl (by decide) (Nat.le_of_ble_eq_true rfl) ?_
  refine zj_goto (tgt := 3) dX1_addFour_17 (by decide) ?_
  refine zj_iload2 (n := 4) rfl dX1_addFour_3 ?_
  refine zj_ifN_lt (n := 7) (tgt := 20) rfl dX1_addFour_4 (by decide) (by omega) ?_
  refine zj_aload0 (n := 8) rfl dX1_addFour_7 ?_
  refine zj_iload1 (n := 9) rfl dX1_addFour_8 ?_
  refine zj_iload2 (n := 10) rfl dX1_addFour_9 ?_
  refine zj_ishr (n := 11) rfl dX1_addFour_10 ?_
  refine zj_callV1 (n := 14) (a' := 0) (b' := 0) rfl dX1_addFour_11 zm_X1_25 (by decide) hB.lt (by rw [hB.ty]; rfl) (Nat.le_of_ble_eq_true rfl) (Nat.le_of_ble_eq_true rfl) (Nat.le_of_ble_eq_true rfl) (Nat.le_of_ble_eq_true rfl) (jX1_add hB3 (by omega) ?_)
  intro M4 hB4 hF4 hs4
  refine zj_iinc2 (v := (-8)) (n := 17) rfl dX1_addFour_14 rfl (by decide) (Nat.le_of_ble_eq_true rfl) ?_
  refine zj_goto (tgt := 3) dX1_addFour_17 (by decide) ?_
  refine zj_iload2 (n := 4) rfl dX1_addFour_3 ?_
  refine zj_if_lt (n := 7) (tgt := 20) rfl dX1_addFour_4 (by decide) (fun _ => ?_) (fun h => absurd h (by decide))
  exact zj_return dX1_addFour_20 rfl (h _ hB4 (fun a h1 h2 => (hF4 a h1 h2).trans ((hF3 a h1 h2).trans ((hF2 a h1 h2).trans (hF1 a h1 h2)))) (hs4.trans (hs3.trans (hs2.trans hs1))))
def zLetter (c : Nat) : Bool := decide (97 ≤ c) && decide (c ≤ 122)
theorem jX1_isLetter {c : Nat} {Q : Option Value → zM → Prop} {X : String → zM → Prop} {M : zM} (hc : c < 2 ^ 31) (h : Q (some (.int (zb (zLetter c)))) M) : zJ yX1_isLetter cX1_isLetter 1 (some .boolean) rX1_isLetter Q X rX1_isLetter.cells rX1_isLetter.slots 0 (zEnt 1 [.int (nI c)]) [] M := by
  show zJ yX1_isLetter cX1_isLetter 1 (some .boolean) rX1_isLetter Q X 0 0 0 [some (.int (nI c))] [] M
  refine zj_iload0 (n := 1) rfl dX1_isLetter_0 ?_
  refine zj_bipushN (v := 97) (n := 3) rfl dX1_isLetter_1 (by decide) ?_
  refine zj_icmpN_lt (n := 6) (tgt := 16) rfl dX1_isLetter_3 (by decide) (by omega) (by omega) (fun c3 => ?_) (fun c3 => ?_)
  · refine zj_iconstN_0 (n := 17) rfl dX1_isLetter_16 ?_
    exact zj_ireturn dX1_isLetter_17 rfl rfl (zQi h (by unfold zLetter; first | (rw [decide_eq_false (by omega)]; rfl) | (rw [decide_eq_false (p := c ≤ 122) (by omega), Bool.and_false]; rfl)))
  · refine zj_iload0 (n := 7) rfl dX1_isLetter_6 ?_
    refine zj_bipushN (v := 122) (n := 9) rfl dX1_isLetter_7 (by decide) ?_
    refine zj_icmpN_gt (n := 12) (tgt := 16) rfl dX1_isLetter_9 (by decide) (by omega) (by omega) (fun c9 => ?_) (fun c9 => ?_)
    · refine zj_iconstN_0 (n := 17) rfl dX1_isLetter_16 ?_
      exact zj_ireturn dX1_isLetter_17 rfl rfl (zQi h (by unfold zLetter; first | (rw [decide_eq_false (by omega)]; rfl) | (rw [decide_eq_false (p := c ≤ 122) (by omega), Bool.and_false]; rfl)))
    · refine zj_iconstN_1 (n := 13) rfl dX1_isLetter_12 ?_
      refine zj_goto (tgt := 17) dX1_isLetter_13 (by decide) ?_
      exact zj_ireturn dX1_isLetter_17 rfl rfl (zQi h (by unfold zLetter; rw [decide_eq_true (by omega), decide_eq_true (by omega)]; rfl))
def zDigit (c : Nat) : Bool := decide (48 ≤ c) && decide (c ≤ 57)
theorem jX1_isDigit {c : Nat} {Q : Option Value → zM → Prop} {X : String → zM → Prop} {M : zM} (hc : c < 2 ^ 31) (h : Q (some (.int (zb (zDigit c)))) M) : zJ yX1_isDigit cX1_isDigit 1 (some .boolean) rX1_isDigit Q X rX1_isDigit.cells rX1_isDigit.slots 0 (zEnt 1 [.int (nI c)]) [] M := by
  show zJ yX1_isDigit cX1_isDigit 1 (some .boolean) rX1_isDigit Q X 0 0 0 [some (.int (nI c))] [] M
  refine zj_iload0 (n := 1) rfl dX1_isDigit_0 ?_
  refine zj_bipushN (v := 48) (n := 3) rfl dX1_isDigit_1 (by decide) ?_
  refine zj_icmpN_lt (n := 6) (tgt := 16) rfl dX1_isDigit_3 (by decide) (by omega) (by omega) (fun c3 => ?_) (fun c3 => ?_)
  · refine zj_iconstN_0 (n := 17) rfl dX1_isDigit_16 ?_
    exact zj_ireturn dX1_isDigit_17 rfl rfl (zQi h (by unfold zDigit; first | (rw [decide_eq_false (by omega)]; rfl) | (rw [decide_eq_false (p := c ≤ 57) (by omega), Bool.and_false]; rfl)))
  · refine zj_iload0 (n := 7) rfl dX1_isDigit_6 ?_
    refine zj_bipushN (v := 57) (n := 9) rfl dX1_isDigit_7 (by decide) ?_
    refine zj_icmpN_gt (n := 12) (tgt := 16) rfl dX1_isDigit_9 (by decide) (by omega) (by omega) (fun c9 => ?_) (fun c9 => ?_)
    · refine zj_iconstN_0 (n := 17) rfl dX1_isDigit_16 ?_
      exact zj_ireturn dX1_isDigit_17 rfl rfl (zQi h (by unfold zDigit; first | (rw [decide_eq_false (by omega)]; rfl) | (rw [decide_eq_false (p := c ≤ 57) (by omega), Bool.and_false]; rfl)))
    · refine zj_iconstN_1 (n := 13) rfl dX1_isDigit_12 ?_
      refine zj_goto (tgt := 17) dX1_isDigit_13 (by decide) ?_
      exact zj_ireturn dX1_isDigit_17 rfl rfl (zQi h (by unfold zDigit; rw [decide_eq_true (by omega), decide_eq_true (by omega)]; rfl))
def zBlank (c : Nat) : Bool := decide (c = 32) || decide (c = 10)
theorem jX1_isBlank {c : Nat} {Q : Option Value → zM → Prop} {X : String → zM → Prop} {M : zM} (hc : c < 2 ^ 31) (h : Q (some (.int (zb (zBlank c)))) M) : zJ yX1_isBlank cX1_isBlank 1 (some .boolean) rX1_isBlank Q X rX1_isBlank.cells rX1_isBlank.slots 0 (zEnt 1 [.int (nI c)]) [] M := by
  show zJ yX1_isBlank cX1_isBlank 1 (some .boolean) rX1_isBlank Q X 0 0 0 [some (.int (nI c))] [] M
  refine zj_iload0 (n := 1) rfl dX1_isBlank_0 ?_
  refine zj_bipushN (v := 32) (n := 3) rfl dX1_isBlank_1 (by decide) ?_
  refine zj_icmpN_eq (n := 6) (tgt := 12) rfl dX1_isBlank_3 (by decide) (by omega) (by omega) (fun c3 => ?_) (fun c3 => ?_)
  · refine zj_iconstN_1 (n := 13) rfl dX1_isBlank_12 ?_
    refine zj_goto (tgt := 17) dX1_isBlank_13 (by decide) ?_
    exact zj_ireturn dX1_isBlank_17 rfl rfl (zQi h (by unfold zBlank; first | (rw [decide_eq_true (by omega)]; rfl) | (rw [decide_eq_true (p := c = 10) (by omega), Bool.or_true]; rfl)))
  · refine zj_iload0 (n := 7) rfl dX1_isBlank_6 ?_
    refine zj_bipushN (v := 10) (n := 9) rfl dX1_isBlank_7 (by decide) ?_
    refine zj_icmpN_ne (n := 12) (tgt := 16) rfl dX1_isBlank_9 (by decide) (by omega) (by omega) (fun c9 => ?_) (fun c9 => ?_)
    · refine zj_iconstN_0 (n := 17) rfl dX1_isBlank_16 ?_
      exact zj_ireturn dX1_isBlank_17 rfl rfl (zQi h (by unfold zBlank; rw [decide_eq_false (by omega), decide_eq_false (by omega)]; rfl))
    · refine zj_iconstN_1 (n := 13) rfl dX1_isBlank_12 ?_
      refine zj_goto (tgt := 17) dX1_isBlank_13 (by decide) ?_
      exact zj_ireturn dX1_isBlank_17 rfl rfl (zQi h (by unfold zBlank; first | (rw [decide_eq_true (by omega)]; rfl) | (rw [decide_eq_true (p := c = 10) (by omega), Bool.or_true]; rfl)))
def wis (B : Nat → Nat) (f t i : Nat) : Bool := decide (t = f + kwl i) && !zAny (kwl i) (fun j => !(B (f + j) == kwc i j))
theorem wis_no {B : Nat → Nat} {f t i j : Nat} (hj : j < kwl i) (h : B (f + j) ≠ kwc i j) : wis B f t i = false := by
  unfold wis
  rw [zAny_iff.mpr ⟨j, hj, by simp [h]⟩]
  simp
theorem wis_len {B : Nat → Nat} {f t i : Nat} (h : t ≠ f + kwl i) : wis B f t i = false := by
  unfold wis
  rw [decide_eq_false h]
  rfl
theorem wis_yes {B : Nat → Nat} {f t i : Nat} (h : t = f + kwl i) (h2 : ∀ j, j < kwl i → B (f + j) = kwc i j) : wis B f t i = true := by
  unfold wis
  rw [decide_eq_true h]
  cases q : zAny (kwl i) (fun j => !(B (f + j) == kwc i j))
  · rfl
  · obtain ⟨j, h3, h4⟩ := zAny_iff.mp q
    simp [h2 j h3] at h4
theorem wis_iff {B : Nat → Nat} {f t i : Nat} : wis B f t i = true ↔ t = f + kwl i ∧ ∀ j, j < kwl i → B (f + j) = kwc i j := by
  constructor
  · intro h
    refine ⟨?_, fun j hj => ?_⟩
    · by_cases q : t = f + kwl i
      · exact q
      · rw [wis_len q] at h; cases h
    · by_cases q : B (f + j) = kwc i j
      · exact q
      · rw [wis_no hj q] at h; cases h
  · intro h; exact wis_yes h.1 h.2
theorem jX1_spells {k n : Nat} {B : Nat → Nat} {f t i : Nat} {Q : Option Value → zM → Prop} {X : String → zM → Prop} {M : zM} (hB : zBy M k n B) (hi : i < 23) (hft : f ≤ t) (ht : t ≤ n) (h : Q (some (.int (zb (wis B f t i)))) M) : zJ yX1_spells cX1_spells 5 (some .boolean) rX1_spells Q X rX1_spells.cells rX1_spells.slots 0 (zEnt 5 [.ref k, .ref (300 + i), .int (nI f), .int (nI t)]) [] M := by
  have hl := hB.2.2.1
  have hl9 := zLen_lt (k + 1)
  have hw := kwl_le i hi
  show zJ yX1_spells cX1_spells 5 (some .boolean) rX1_spells Q X 0 0 0 [some (.ref k), some (.ref (300 + i)), some (.int (nI f)), some (.int (nI t)), none] [] M
  refine zj_iload3 (n := 1) rfl dX1_spells_0 ?_
  refine zj_iload2 (n := 2) rfl dX1_spells_1 ?_
  refine zj_isubN (n := 3) rfl dX1_spells_2 (by omega) ?_
  refine zj_aload1 (n := 4) rfl dX1_spells_3 ?_
  refine zj_callVK0 (n := 7) (a' := 0) (b' := 0) rfl dX1_spells_4 zm_X1_38 (by decide) hi rfl (Nat.le_of_ble_eq_true rfl) (Nat.le_of_ble_eq_true rfl) (Nat.le_of_ble_eq_true rfl) (Nat.le_of_ble_eq_true rfl) (jJ0_length (i := i) hi ?_)
  refine zj_icmpN_eq (n := 10) (tgt := 12) rfl dX1_spells_7 (by decide) (by omega) (by omega) (fun c7 => ?_) (fun c7 => ?_)
  · refine zj_iconstN_0 (n := 13) rfl dX1_spells_12 ?_
    refine zj_istore4 (n := 15) rfl dX1_spells_13 rfl (Nat.le_of_ble_eq_true rfl) ?_
    refine zFind_rule (P := fun j => zJ yX1_spells cX1_spells 5 (some .boolean) rX1_spells Q X 0 0 15 [some (.ref k), some (.ref (300 + i)), some (.int (nI f)), some (.int (nI t)), some (.int (nI j))] [] M) (n := kwl i) (p := fun j => !decide (B (f + j) = kwc i j)) ?_ ?_
    · intro j hj hf hk
      refine zj_iload4 (n := 17) rfl dX1_spells_15 ?_
      refine zj_aload1 (n := 18) rfl dX1_spells_17 ?_
      refine zj_callVK0 (n := 21) (a' := 0) (b' := 0) rfl dX1_spells_18 zm_X1_38 (by decide) hi rfl (Nat.le_of_ble_eq_true rfl) (Nat.le_of_ble_eq_true rfl) (Nat.le_of_ble_eq_true rfl) (Nat.le_of_ble_eq_true rfl) (jJ0_length (i := i) hi ?_)
      refine zj_icmpN_ge (n := 24) (tgt := 49) rfl dX1_spells_21 (by decide) (by omega) (by omega) (fun c21 => by omega) (fun c21 => ?_)
      refine zj_aload0 (n := 25) rfl dX1_spells_24 ?_
      refine zj_iload2 (n := 26) rfl dX1_spells_25 ?_
      refine zj_iload4 (n := 28) rfl dX1_spells_26 ?_
      refine zj_iaddN (n := 29) rfl dX1_spells_28 ?_
      refine zj_callV1 (n := 32) (a' := 0) (b' := 0) rfl dX1_spells_29 zm_X1_30 (by decide) hB.lt (by rw [hB.ty]; rfl) (Nat.le_of_ble_eq_true rfl) (Nat.le_of_ble_eq_true rfl) (Nat.le_of_ble_eq_true rfl) (Nat.le_of_ble_eq_true rfl) (jX1_at hB (by omega) ?_)
      rw [if_pos (show f + j < n by omega)]
      have hb9 := hB.b (show f + j < n by omega)
      have hc9 := kwc_lt i hi j (by omega)
      refine zj_aload1 (n := 33) rfl dX1_spells_32 ?_
      refine zj_iload4 (n := 35) rfl dX1_spells_33 ?_
      refine zj_callVK1 (n := 38) (a' := 0) (b' := 0) rfl dX1_spells_35 zm_X1_44 (by decide) hi rfl (Nat.le_of_ble_eq_true rfl) (Nat.le_of_ble_eq_true rfl) (Nat.le_of_ble_eq_true rfl) (Nat.le_of_ble_eq_true rfl) (jJ0_charAt (i := i) (j := j) hi (by omega) ?_)
      refine zj_icmpN_eq (n := 41) (tgt := 43) rfl dX1_spells_38 (by decide) (by omega) (by omega) (fun c38 => ?_) (fun c38 => ?_)
      · refine zj_iincN4 (n := 46) rfl dX1_spells_43 rfl (Nat.le_of_ble_eq_true rfl) ?_
        refine zj_goto (tgt := 15) dX1_spells_46 (by decide) ?_
        exact hk (by simp [c38])
      · refine zj_iconstN_0 (n := 42) rfl dX1_spells_41 ?_
        exact zj_ireturn dX1_spells_42 rfl rfl (zQi h (by rw [wis_no hj (by omega)]; rfl))
    · intro hf
      refine zj_iload4 (n := 17) rfl dX1_spells_15 ?_
      refine zj_aload1 (n := 18) rfl dX1_spells_17 ?_
      refine zj_callVK0 (n := 21) (a' := 0) (b' := 0) rfl dX1_spells_18 zm_X1_38 (by decide) hi rfl (Nat.le_of_ble_eq_true rfl) (Nat.le_of_ble_eq_true rfl) (Nat.le_of_ble_eq_true rfl) (Nat.le_of_ble_eq_true rfl) (jJ0_length (i := i) hi ?_)
      refine zj_icmpN_ge (n := 24) (tgt := 49) rfl dX1_spells_21 (by decide) (by omega) (by omega) (fun c21 => ?_) (fun c21 => by omega)
      refine zj_iconstN_1 (n := 50) rfl dX1_spells_49 ?_
      exact zj_ireturn dX1_spells_50 rfl rfl (zQi h (by rw [wis_yes (by omega) (fun j hj => by have := hf j hj; simpa using this)]; rfl))
  · refine zj_iconstN_0 (n := 11) rfl dX1_spells_10 ?_
    exact zj_ireturn dX1_spells_11 rfl rfl (zQi h (by rw [wis_len (by omega)]; rfl))
def vpkN (B : Nat → Nat) (f k : Nat) : Nat := zFor k (fun i a => a * 32 + (B (f + i) - 96)) 0
def vnm (B : Nat → Nat) (f t : Nat) : Nat := if t - f ≤ 6 ∧ zAny (t - f) (fun i => !zLetter (B (f + i))) = false then vpkN B f (t - f) else 0
theorem zLetter_iff {c : Nat} : zLetter c = true ↔ 97 ≤ c ∧ c ≤ 122 := by
  unfold zLetter
  rw [Bool.and_eq_true, decide_eq_true_eq, decide_eq_true_eq]
theorem zLetter_no {c : Nat} : zLetter c = false ↔ ¬ (97 ≤ c ∧ c ≤ 122) := by
  rw [← zLetter_iff]
  cases zLetter c <;> simp
theorem vpkN_lt {B : Nat → Nat} {f k : Nat} (h : ∀ i, i < k → zLetter (B (f + i)) = true) : vpkN B f k < 32 ^ k := by
  induction k with
  | zero => exact Nat.one_pos
  | succ k ih =>
    have h1 := ih (fun i hi => h i (by omega))
    have h2 := zLetter_iff.mp (h k (by omega))
    show vpkN B f k * 32 + (B (f + k) - 96) < 32 ^ (k + 1)
    rw [Nat.pow_succ]
    omega
theorem zshl5 {p c : Nat} (hp : p < 2 ^ 25) (hc : c < 32) : (nI p <<< (nI 5 &&& 31)) ||| nI c = nI (p * 32 + c) := by
  have h1 : nI p <<< (nI 5 &&& 31) = nI (p * 2 ^ 5) := pk_shlN (n := p) (nI 5 &&& 31) 5 (s_l 5 (by decide)) (by omega)
  rw [h1]
  apply Int32.toBitVec_inj.mp
  show BitVec.ofNat 32 (p * 2 ^ 5) ||| BitVec.ofNat 32 c = BitVec.ofNat 32 (p * 32 + c)
  apply BitVec.eq_of_toNat_eq
  rw [BitVec.toNat_or, BitVec.toNat_ofNat, BitVec.toNat_ofNat, BitVec.toNat_ofNat, Nat.mod_eq_of_lt (by omega), Nat.mod_eq_of_lt (by omega), Nat.mod_eq_of_lt (by omega), Nat.mul_comm p]
  have := Nat.two_pow_add_eq_or_of_lt (i := 5) hc p
  rw [← this]
theorem jX1_nameBetween {k n : Nat} {B : Nat → Nat} {f t : Nat} {Q : Option Value → zM → Prop} {X : String → zM → Prop} {M : zM} (hB : zBy M k n B) (hft : f ≤ t) (ht : t ≤ n) (h : Q (some (.int (nI (vnm B f t)))) M) : zJ yX1_nameBetween cX1_nameBetween 5 (some .int) rX1_nameBetween Q X rX1_nameBetween.cells rX1_nameBetween.slots 0 (zEnt 5 [.ref k, .int (nI f), .int (nI t)]) [] M := by
  have hl := hB.2.2.1
  have hl9 := zLen_lt (k + 1)
  show zJ yX1_nameBetween cX1_nameBetween 5 (some .int) rX1_nameBetween Q X 0 0 0 [some (.ref k), some (.int (nI f)), some (.int (nI t)), none, none] [] M
  refine zj_iload2 (n := 1) rfl dX1_nameBetween_0 ?_
  refine zj_iload1 (n := 2) rfl dX1_nameBetween_1 ?_
  refine zj_isubN (n := 3) rfl dX1_nameBetween_2 (by omega) ?_
  refine zj_bipushN (v := 6) (n := 5) rfl dX1_nameBetween_3 (by decide) ?_
  refine zj_icmpN_le (n := 8) (tgt := 10) rfl dX1_nameBetween_5 (by decide) (by omega) (by omega) (fun c5 => ?_) (fun c5 => ?_)
  · refine zj_iconstN_0 (n := 11) rfl dX1_nameBetween_10 ?_
    refine zj_istore3 (n := 12) rfl dX1_nameBetween_11 rfl (Nat.le_of_ble_eq_true rfl) ?_
    refine zj_iload1 (n := 13) rfl dX1_nameBetween_12 ?_
    refine zj_istore4 (n := 15) rfl dX1_nameBetween_13 rfl (Nat.le_of_ble_eq_true rfl) ?_
    refine zFind_rule (P := fun i => zJ yX1_nameBetween cX1_nameBetween 5 (some .int) rX1_nameBetween Q X 0 0 15 [some (.ref k), some (.int (nI f)), some (.int (nI t)), some (.int (nI (vpkN B f i))), some (.int (nI (f + i)))] [] M) (n := t - f) (p := fun i => !zLetter (B (f + i))) ?_ ?_
    · intro i hi hf hk
      refine zj_iload4 (n := 17) rfl dX1_nameBetween_15 ?_
      refine zj_iload2 (n := 18) rfl dX1_nameBetween_17 ?_
      refine zj_icmpN_ge (n := 21) (tgt := 57) rfl dX1_nameBetween_18 (by decide) (by omega) (by omega) (fun c18 => by omega) (fun c18 => ?_)
      refine zj_aload0 (n := 22) rfl dX1_nameBetween_21 ?_
      refine zj_iload4 (n := 24) rfl dX1_nameBetween_22 ?_
      refine zj_callV1 (n := 27) (a' := 0) (b' := 0) rfl dX1_nameBetween_24 zm_X1_30 (by decide) hB.lt (by rw [hB.ty]; rfl) (Nat.le_of_ble_eq_true rfl) (Nat.le_of_ble_eq_true rfl) (Nat.le_of_ble_eq_true rfl) (Nat.le_of_ble_eq_true rfl) (jX1_at hB (by omega) ?_)
      rw [if_pos (show f + i < n by omega)]
      have hb9 := hB.b (show f + i < n by omega)
      refine zj_callS1 (n := 30) (a' := 0) (b' := 0) rfl dX1_nameBetween_27 zm_X1_34 (by decide) (Nat.le_of_ble_eq_true rfl) (Nat.le_of_ble_eq_true rfl) (Nat.le_of_ble_eq_true rfl) (Nat.le_of_ble_eq_true rfl) (jX1_isLetter (c := B (f + i)) (by omega) ?_)
      refine zj_ifB_ne (n := 33) (tgt := 35) rfl dX1_nameBetween_30 (by decide) (fun c30 => ?_) (fun c30 => ?_)
      · refine zj_iload3 (n := 36) rfl dX1_nameBetween_35 ?_
        refine zj_iconstN_5 (n := 37) rfl dX1_nameBetween_36 ?_
        refine zj_ishl (n := 38) rfl dX1_nameBetween_37 ?_
        refine zj_aload0 (n := 39) rfl dX1_nameBetween_38 ?_
        refine zj_iload4 (n := 41) rfl dX1_nameBetween_39 ?_
        refine zj_callV1 (n := 44) (a' := 0) (b' := 0) rfl dX1_nameBetween_41 zm_X1_30 (by decide) hB.lt (by rw [hB.ty]; rfl) (Nat.le_of_ble_eq_true rfl) (Nat.le_of_ble_eq_true rfl) (Nat.le_of_ble_eq_true rfl) (Nat.le_of_ble_eq_true rfl) (jX1_at hB (by omega) ?_)
        rw [if_pos (show f + i < n by omega)]
        have hb9 := hB.b (show f + i < n by omega)
        have hz9 := zLetter_iff.mp c30
        refine zj_bipushN (v := 97) (n := 46) rfl dX1_nameBetween_44 (by decide) ?_
        refine zj_isubN (n := 47) rfl dX1_nameBetween_46 (by omega) ?_
        refine zj_iconstN_1 (n := 48) rfl dX1_nameBetween_47 ?_
        refine zj_iaddN (n := 49) rfl dX1_nameBetween_48 ?_
        refine zj_ior (n := 50) rfl dX1_nameBetween_49 ?_
        rw [zshl5 (by have := vpkN_lt (B := B) (f := f) (k := i) (fun j hj => by have := hf j hj; simpa using this); have : (32 : Nat) ^ i ≤ 32 ^ 5 := Nat.pow_le_pow_right (by decide) (by omega); omega) (by omega), show vpkN B f i * 32 + (B (f + i) - 97 + 1) = vpkN B f (i + 1) from by show _ = vpkN B f i * 32 + (B (f + i) - 96); omega]
        refine zj_istore3 (n := 51) rfl dX1_nameBetween_50 rfl (Nat.le_of_ble_eq_true rfl) ?_
        refine zj_iincN4 (n := 54) rfl dX1_nameBetween_51 rfl (Nat.le_of_ble_eq_true rfl) ?_
        refine zj_goto (tgt := 15) dX1_nameBetween_54 (by decide) ?_
        exact hk (by simp [c30])
      · refine zj_iconstN_0 (n := 34) rfl dX1_nameBetween_33 ?_
        exact zj_ireturn dX1_nameBetween_34 rfl rfl (zQi h (by unfold vnm; rw [if_neg (fun q => by have := zAny_iff (p := fun i => !zLetter (B (f + i))) |>.mpr ⟨i, hi, by simp [c30]⟩; rw [q.2] at this; cases this)]))
    · intro hf
      refine zj_iload4 (n := 17) rfl dX1_nameBetween_15 ?_
      refine zj_iload2 (n := 18) rfl dX1_nameBetween_17 ?_
      refine zj_icmpN_ge (n := 21) (tgt := 57) rfl dX1_nameBetween_18 (by decide) (by omega) (by omega) (fun c18 => ?_) (fun c18 => by omega)
      refine zj_iload3 (n := 58) rfl dX1_nameBetween_57 ?_
      exact zj_ireturn dX1_nameBetween_58 rfl rfl (zQi h (by unfold vnm; rw [if_pos ⟨by omega, by cases q : zAny (t - f) (fun i => !zLetter (B (f + i))); rfl; obtain ⟨j, h3, h4⟩ := zAny_iff.mp q; rw [hf j h3] at h4; cases h4⟩]))
  · refine zj_iconstN_0 (n := 9) rfl dX1_nameBetween_8 ?_
    exact zj_ireturn dX1_nameBetween_9 rfl rfl (zQi h (by unfold vnm; rw [if_neg (by omega)]))
