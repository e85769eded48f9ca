/-! TOKENS -/
def tS (B : Nat → Nat) (n p : Nat) : Nat := p + zFst (n - p) (fun i => !zBlank (B (p + i)))
def lWd (B : Nat → Nat) (n p : Nat) : Nat := p + zFst (n - p) (fun i => !zLetter (B (p + i)))
def lDg (B : Nat → Nat) (n p : Nat) : Nat := p + zFst (n - p) (fun i => !zDigit (B (p + i)))
def lNu (B : Nat → Nat) (f k : Nat) : Nat := zFor k (fun i a => a * 10 + (B (f + i) - 48)) 0
def sK (B : Nat → Nat) (n s : Nat) : Nat := if s < n then (if zLetter (B s) then 1 else if zDigit (B s) then 2 else 3) else 0
def sE (B : Nat → Nat) (n s : Nat) : Nat := if s < n then (if zLetter (B s) then lWd B n s else if zDigit (B s) then lDg B n s else s + 1) else s
abbrev tK (B : Nat → Nat) (n e : Nat) : Nat := sK B n (tS B n e)
abbrev tE (B : Nat → Nat) (n e : Nat) : Nat := sE B n (tS B n e)
def tN (B : Nat → Nat) (n e : Nat) : Nat := lNu B (tS B n e) (tE B n e - tS B n e)
theorem zDigit_iff {c : Nat} : zDigit c = true ↔ 48 ≤ c ∧ c ≤ 57 := by
  unfold zDigit
  rw [Bool.and_eq_true, decide_eq_true_eq, decide_eq_true_eq]
theorem tS_le {B : Nat → Nat} {n e : Nat} (h : e ≤ n) : e ≤ tS B n e ∧ tS B n e ≤ n := by
  have := zFst_le (n - e) (fun i => !zBlank (B (e + i)))
  unfold tS; omega
theorem lWd_le {B : Nat → Nat} {n e : Nat} (h : e ≤ n) : e ≤ lWd B n e ∧ lWd B n e ≤ n := by
  have := zFst_le (n - e) (fun i => !zLetter (B (e + i)))
  unfold lWd; omega
theorem lDg_le {B : Nat → Nat} {n e : Nat} (h : e ≤ n) : e ≤ lDg B n e ∧ lDg B n e ≤ n := by
  have := zFst_le (n - e) (fun i => !zDigit (B (e + i)))
  unfold lDg; omega
theorem lWd_gt {B : Nat → Nat} {n e : Nat} (h : e < n) (hl : zLetter (B e) = true) : e < lWd B n e := by
  unfold lWd
  have h1 := zFst_le (n - e) (fun i => !zLetter (B (e + i)))
  rcases Nat.eq_zero_or_pos (zFst (n - e) (fun i => !zLetter (B (e + i)))) with q | q
  · exfalso
    have h2 := zFst_lt (n := n - e) (p := fun i => !zLetter (B (e + i))) (by omega)
    rw [q] at h2
    simp [hl] at h2
  · omega
theorem lDg_gt {B : Nat → Nat} {n e : Nat} (h : e < n) (hl : zDigit (B e) = true) : e < lDg B n e := by
  unfold lDg
  have h1 := zFst_le (n - e) (fun i => !zDigit (B (e + i)))
  rcases Nat.eq_zero_or_pos (zFst (n - e) (fun i => !zDigit (B (e + i)))) with q | q
  · exfalso
    have h2 := zFst_lt (n := n - e) (p := fun i => !zDigit (B (e + i))) (by omega)
    rw [q] at h2
    simp [hl] at h2
  · omega
theorem sE_le {B : Nat → Nat} {n s : Nat} (h : s ≤ n) : s ≤ sE B n s ∧ sE B n s ≤ n := by
  have h1 := lWd_le (B := B) h
  have h2 := lDg_le (B := B) h
  unfold sE
  split
  · split
    · exact h1
    · split
      · exact h2
      · omega
  · omega
theorem sE_gt {B : Nat → Nat} {n s : Nat} (h : s < n) : s < sE B n s := by
  unfold sE
  rw [if_pos h]
  split
  · exact lWd_gt h (by assumption)
  · split
    · exact lDg_gt h (by assumption)
    · omega
theorem tE_le {B : Nat → Nat} {n e : Nat} (h : e ≤ n) : e ≤ tE B n e ∧ tE B n e ≤ n ∧ tS B n e ≤ tE B n e := by
  have h1 := tS_le (B := B) h
  have h2 := sE_le (B := B) h1.2
  show e ≤ sE B n (tS B n e) ∧ sE B n (tS B n e) ≤ n ∧ tS B n e ≤ sE B n (tS B n e)
  omega
theorem sK_le {B : Nat → Nat} {n s : Nat} : sK B n s ≤ 3 := by
  unfold sK
  split
  · split
    · omega
    · split <;> omega
  · omega
theorem sK_0 {B : Nat → Nat} {n s : Nat} : sK B n s = 0 ↔ ¬ s < n := by
  unfold sK
  split
  · split
    · omega
    · split <;> omega
  · omega
theorem lNu_succ (B : Nat → Nat) (f k : Nat) : lNu B f (k + 1) = lNu B f k * 10 + (B (f + k) - 48) := rfl
def zKf (S : Nat → Bool) (M M1 : zM) : Prop := (∀ a, a ≠ 104 → M1.1 a = M.1 a) ∧ M1.2 = M.2 ∧ ∀ j, S j = false → M1.1 104 j = M.1 104 j
theorem zKf.rf {S : Nat → Bool} {M : zM} : zKf S M M := ⟨fun _ _ => rfl, rfl, fun _ _ => rfl⟩
theorem zKf.tr {S : Nat → Bool} {M M1 M2 : zM} (h : zKf S M M1) (h2 : zKf S M1 M2) : zKf S M M2 := ⟨fun a ha => (h2.1 a ha).trans (h.1 a ha), h2.2.1.trans h.2.1, fun j hj => (h2.2.2 j hj).trans (h.2.2 j hj)⟩
theorem zKf.mono {S T : Nat → Bool} {M M1 : zM} (h : zKf S M M1) (hs : ∀ j, T j = false → S j = false) : zKf T M M1 := ⟨h.1, h.2.1, fun j hj => h.2.2 j (hs j hj)⟩
theorem zKf.put {S : Nat → Bool} {M M1 : zM} {j : Nat} {x : Int32} (h : zKf S M M1) (hj : S j = true) : zKf S M (zU M1.1 104 j x, M1.2) := h.tr ⟨fun a ha => zU_off ha, rfl, fun i hi => by
  show zU M1.1 104 j x 104 i = _
  exact zU_nj (fun e => by subst e; rw [hj] at hi; cases hi)⟩
theorem zUn {f : Nat → Nat → Int32} {k j a b : Nat} {r : (Nat → Nat → Int64) × (Nat → Nat → UInt64) × Nat} (h : a = b) : ((zU f k j (nI a), r) : zM).1 k j = nI b := by subst h; exact zU_eq
theorem zUe {f : Nat → Nat → Int32} {k j : Nat} {x : Int32} {r : (Nat → Nat → Int64) × (Nat → Nat → UInt64) × Nat} : ((zU f k j x, r) : zM).1 k j = x := zU_eq
theorem zKf.by_ {S : Nat → Bool} {M M1 : zM} {n : Nat} {B : Nat → Nat} (h : zKf S M M1) (hB : zBy M 100 n B) : zBy M1 100 n B := hB.cg (h.1 100 (by decide)) (h.1 101 (by decide))
/-- a token of the class's parser -/
def tQ (B : Nat → Nat) (n e : Nat) : Nat := if tK B n e = 2 then min 100000000 (tN B n e) else 0
def zTk (M : zM) (n : Nat) (B : Nat → Nat) (e : Nat) : Prop := M.1 104 4 = nI (tK B n e) ∧ M.1 104 5 = nI (tS B n e) ∧ M.1 104 6 = nI (tE B n e) ∧ M.1 104 7 = nI (tQ B n e)
theorem tQ_lt {B : Nat → Nat} {n e : Nat} : tQ B n e ≤ 100000000 := by unfold tQ; split <;> omega
theorem zTk.cg {M M' : zM} {n e : Nat} {B : Nat → Nat} (h : zTk M n B e) (hk : ∀ j, 4 ≤ j → M'.1 104 j = M.1 104 j) : zTk M' n B e := ⟨by rw [hk 4 (by decide)]; exact h.1, by rw [hk 5 (by decide)]; exact h.2.1, by rw [hk 6 (by decide)]; exact h.2.2.1, by rw [hk 7 (by decide)]; exact h.2.2.2⟩
/-- the parser's state: code, place, where the search for the present token began -/
abbrev zS : Type := Nat × Nat × Nat
def zPs (M : zM) (n : Nat) (B : Nat → Nat) (s : zS) : Prop := zBy M 100 n B ∧ M.1 104 2 = nI s.1 ∧ s.1 ≤ 5 ∧ (s.1 ≠ 0 → M.1 104 3 = nI s.2.1) ∧ ∃ e, e ≤ n ∧ zTk M n B e ∧ (s.1 = 0 → e = s.2.2)
def sRef (k q : Nat) (s : zS) : zS := if s.1 = 0 then (k, q, 0) else s
def sNext (B : Nat → Nat) (n : Nat) (s : zS) : zS := if s.1 = 0 then (0, 0, tE B n s.2.2) else s
/-- the present token is the keyword -/
def sAt (B : Nat → Nat) (n e i : Nat) : Bool := (tK B n e == 1) && wis B (tS B n e) (tE B n e) i
def sKw (B : Nat → Nat) (n e : Nat) : Bool := zAny 23 (fun i => wis B (tS B n e) (tE B n e) i)
def sErr (k : Nat) (B : Nat → Nat) (n : Nat) (b : Bool) (s : zS) : zS := if b then sRef k (tS B n s.2.2) s else s
def sTake (B : Nat → Nat) (n i : Nat) (s : zS) : zS := sNext B n (sErr 1 B n (!sAt B n s.2.2 i) s)
def sSemi (B : Nat → Nat) (n e : Nat) : Bool := (tK B n e == 3) && (B (tS B n e) == 59)
def sEnd (B : Nat → Nat) (n : Nat) (s : zS) : zS := sNext B n (sErr 1 B n (!sSemi B n s.2.2) s)
def sNumE (B : Nat → Nat) (n lo hi : Nat) (s : zS) : zS := if tK B n s.2.2 = 2 then sErr 2 B n (!(decide (lo ≤ tN B n s.2.2) && decide (tN B n s.2.2 ≤ hi))) s else sErr 1 B n true s
def sNum (B : Nat → Nat) (n lo hi : Nat) (s : zS) : zS := sNext B n (sNumE B n lo hi s)
def sBadN (B : Nat → Nat) (n e : Nat) : Bool := !(tK B n e == 1) || decide (6 < tE B n e - tS B n e) || sKw B n e
def sName (B : Nat → Nat) (n : Nat) (s : zS) : zS := sNext B n (sErr 1 B n (sBadN B n s.2.2) s)
theorem jX5_skipLetters {n : Nat} {B : Nat → Nat} {p : Nat} {Q : Option Value → zM → Prop} {X : String → zM → Prop} {M : zM} (hB : zBy M 100 n B) (he : M.1 104 6 = nI p) (hp : p ≤ n) (h : ∀ M', zKf (fun j => j == 6) M M' → M'.1 104 6 = nI (lWd B n p) → Q none M') : zJ yX5_skipLetters cX5_skipLetters 1 none rX5_skipLetters Q X rX5_skipLetters.cells rX5_skipLetters.slots 0 (zEnt 1 [.ref 104]) [] M := by
  have hl : n ≤ 1400 := hB.2.2.1
  show zJ yX5_skipLetters cX5_skipLetters 1 none rX5_skipLetters Q X 0 0 0 [some (.ref 104)] [] M
  refine zFind_rule (P := fun i => ∀ M1, zKf (fun j => j == 6) M M1 → M1.1 104 6 = nI (p + i) → zJ yX5_skipLetters cX5_skipLetters 1 none rX5_skipLetters Q X 0 0 0 [some (.ref 104)] [] M1) (n := n - p) (p := fun i => !zLetter (B (p + i))) ?_ ?_ M zKf.rf he
  · intro i hi hf hk M1 hF he1
    have hB1 := hF.by_ hB
    refine zj_aload0 (n := 1) rfl dX5_skipLetters_0 ?_
    refine zj_getiN (e := p + i) (n := 4) rfl dX5_skipLetters_1 zf_X5_29 rfl (by decide) (by decide) he1 ?_
    refine zj_aload0 (n := 5) rfl dX5_skipLetters_4 ?_
    refine zj_getr (n := 8) (q := 100) rfl dX5_skipLetters_5 zf_X5_18 rfl (by decide) (by decide) rfl ?_
    refine zj_getiN (e := n) (n := 11) rfl dX5_skipLetters_8 zf_X5_231 rfl (by decide) (by decide) hB1.2.1 ?_
    refine zj_icmpN_ge (n := 14) (tgt := 44) rfl dX5_skipLetters_11 (by decide) (by omega) (by omega) (fun c11 => by omega) (fun c11 => ?_)
    refine zj_aload0 (n := 15) rfl dX5_skipLetters_14 ?_
    refine zj_getr (n := 18) (q := 100) rfl dX5_skipLetters_15 zf_X5_18 rfl (by decide) (by decide) rfl ?_
    refine zj_aload0 (n := 19) rfl dX5_skipLetters_18 ?_
    refine zj_getiN (e := p + i) (n := 22) rfl dX5_skipLetters_19 zf_X5_29 rfl (by decide) (by decide) he1 ?_
    refine zj_callV1 (n := 25) (a' := 0) (b' := 0) rfl dX5_skipLetters_22 zm_X5_214 (by decide) (by decide) rfl (Nat.le_of_ble_eq_true rfl) (Nat.le_of_ble_eq_true rfl) (Nat.le_of_ble_eq_true rfl) (Nat.le_of_ble_eq_true rfl) (jX1_at hB1 (by omega) ?_)
    rw [if_pos (show p + i < n by omega)]
    have hb9 := hB1.b (show p + i < n by omega)
    refine zj_callS1 (n := 28) (a' := 0) (b' := 0) rfl dX5_skipLetters_25 zm_X5_237 (by decide) (Nat.le_of_ble_eq_true rfl) (Nat.le_of_ble_eq_true rfl) (Nat.le_of_ble_eq_true rfl) (Nat.le_of_ble_eq_true rfl) (jX1_isLetter (c := B (p + i)) (by omega) ?_)
    refine zj_ifB_eq (n := 31) (tgt := 44) rfl dX5_skipLetters_28 (by decide) (fun c28 => ?_) (fun c28 => ?_)
    · exact zj_return dX5_skipLetters_44 rfl (h M1 hF (by rw [he1]; unfold lWd; rw [zFst_eq hi (by simp [c28]) hf]))
    · refine zj_aload0 (n := 32) rfl dX5_skipLetters_31 ?_
      refine zj_dupr (n := 33) rfl dX5_skipLetters_32 ?_
      refine zj_getiN (e := p + i) (n := 36) rfl dX5_skipLetters_33 zf_X5_29 rfl (by decide) (by decide) he1 ?_
      refine zj_iconstN_1 (n := 37) rfl dX5_skipLetters_36 ?_
      refine zj_iaddN (n := 38) rfl dX5_skipLetters_37 ?_
      refine zj_puti (n := 41) rfl dX5_skipLetters_38 zp_X5_29 rfl (by decide) (by decide) ?_
      refine zj_goto (tgt := 0) dX5_skipLetters_41 (by decide) ?_
      exact hk (by simp [c28]) _ (hF.put rfl) (zUn (by omega))
  · intro hf M1 hF he1
    have hB1 := hF.by_ hB
    refine zj_aload0 (n := 1) rfl dX5_skipLetters_0 ?_
    refine zj_getiN (e := p + (n - p)) (n := 4) rfl dX5_skipLetters_1 zf_X5_29 rfl (by decide) (by decide) he1 ?_
    refine zj_aload0 (n := 5) rfl dX5_skipLetters_4 ?_
    refine zj_getr (n := 8) (q := 100) rfl dX5_skipLetters_5 zf_X5_18 rfl (by decide) (by decide) rfl ?_
    refine zj_getiN (e := n) (n := 11) rfl dX5_skipLetters_8 zf_X5_231 rfl (by decide) (by decide) hB1.2.1 ?_
    refine zj_icmpN_ge (n := 14) (tgt := 44) rfl dX5_skipLetters_11 (by decide) (by omega) (by omega) (fun c11 => ?_) (fun c11 => by omega)
    exact zj_return dX5_skipLetters_44 rfl (h M1 hF (by rw [he1]; unfold lWd; rw [zFst_none.mpr hf]))
theorem jX5_readDigits {n : Nat} {B : Nat → Nat} {p : Nat} {Q : Option Value → zM → Prop} {X : String → zM → Prop} {M : zM} (hB : zBy M 100 n B) (he : M.1 104 6 = nI p) (hp : p ≤ n) (h7 : M.1 104 7 = nI 0) (h : ∀ M', zKf (fun j => j == 6 || j == 7) M M' → M'.1 104 6 = nI (lDg B n p) → M'.1 104 7 = nI (min 100000000 (lNu B p (lDg B n p - p))) → Q none M') : zJ yX5_readDigits cX5_readDigits 1 none rX5_readDigits Q X rX5_readDigits.cells rX5_readDigits.slots 0 (zEnt 1 [.ref 104]) [] M := by
  have hl : n ≤ 1400 := hB.2.2.1
  show zJ yX5_readDigits cX5_readDigits 1 none rX5_readDigits Q X 0 0 0 [some (.ref 104)] [] M
  refine zFind_rule (P := fun i => ∀ M1, zKf (fun j => j == 6 || j == 7) M M1 → M1.1 104 6 = nI (p + i) → M1.1 104 7 = nI (min 100000000 (lNu B p i)) → zJ yX5_readDigits cX5_readDigits 1 none rX5_readDigits Q X 0 0 0 [some (.ref 104)] [] M1) (n := n - p) (p := fun i => !zDigit (B (p + i))) ?_ ?_ M zKf.rf he h7
  · intro i hi hf hk M1 hF he1 h71
    have hB1 := hF.by_ hB
    refine zj_aload0 (n := 1) rfl dX5_readDigits_0 ?_
    refine zj_getiN (e := p + i) (n := 4) rfl dX5_readDigits_1 zf_X5_29 rfl (by decide) (by decide) he1 ?_
    refine zj_aload0 (n := 5) rfl dX5_readDigits_4 ?_
    refine zj_getr (n := 8) (q := 100) rfl dX5_readDigits_5 zf_X5_18 rfl (by decide) (by decide) rfl ?_
    refine zj_getiN (e := n) (n := 11) rfl dX5_readDigits_8 zf_X5_231 rfl (by decide) (by decide) hB1.2.1 ?_
    refine zj_icmpN_ge (n := 14) (tgt := 75) rfl dX5_readDigits_11 (by decide) (by omega) (by omega) (fun c11 => by omega) (fun c11 => ?_)
    refine zj_aload0 (n := 15) rfl dX5_readDigits_14 ?_
    refine zj_getr (n := 18) (q := 100) rfl dX5_readDigits_15 zf_X5_18 rfl (by decide) (by decide) rfl ?_
    refine zj_aload0 (n := 19) rfl dX5_readDigits_18 ?_
    refine zj_getiN (e := p + i) (n := 22) rfl dX5_readDigits_19 zf_X5_29 rfl (by decide) (by decide) he1 ?_
    refine zj_callV1 (n := 25) (a' := 0) (b' := 0) rfl dX5_readDigits_22 zm_X5_214 (by decide) (by decide) rfl (Nat.le_of_ble_eq_true rfl) (Nat.le_of_ble_eq_true rfl) (Nat.le_of_ble_eq_true rfl) (Nat.le_of_ble_eq_true rfl) (jX1_at hB1 (by omega) ?_)
    rw [if_pos (show p + i < n by omega)]
    have hb9 := hB1.b (show p + i < n by omega)
    refine zj_callS1 (n := 28) (a' := 0) (b' := 0) rfl dX5_readDigits_25 zm_X5_243 (by decide) (Nat.le_of_ble_eq_true rfl) (Nat.le_of_ble_eq_true rfl) (Nat.le_of_ble_eq_true rfl) (Nat.le_of_ble_eq_true rfl) (jX1_isDigit (c := B (p + i)) (by omega) ?_)
    refine zj_ifB_eq (n := 31) (tgt := 75) rfl dX5_readDigits_28 (by decide) (fun c28 => ?_) (fun c28 => ?_)
    · refine zj_return dX5_readDigits_75 rfl ?_
      have e9 : lDg B n p = p + i := by unfold lDg; rw [zFst_eq hi (by simp [c28]) hf]
      exact h M1 hF (by rw [he1, e9]) (by rw [h71, e9, Nat.add_sub_cancel_left])
    · refine zj_aload0 (n := 32) rfl dX5_readDigits_31 ?_
      refine zj_ldcN (v := 100000000) (n := 34) rfl dX5_readDigits_32 zc_X5_249 ?_
      refine zj_aload0 (n := 35) rfl dX5_readDigits_34 ?_
      refine zj_getiN (e := min 100000000 (lNu B p i)) (n := 38) rfl dX5_readDigits_35 zf_X5_211 rfl (by decide) (by decide) h71 ?_
      refine zj_bipushN (v := 10) (n := 40) rfl dX5_readDigits_38 (by decide) ?_
      refine zj_imulN (n := 41) rfl dX5_readDigits_40 ?_
      refine zj_aload0 (n := 42) rfl dX5_readDigits_41 ?_
      refine zj_getr (n := 45) (q := 100) rfl dX5_readDigits_42 zf_X5_18 rfl (by decide) (by decide) rfl ?_
      refine zj_aload0 (n := 46) rfl dX5_readDigits_45 ?_
      refine zj_getiN (e := p + i) (n := 49) rfl dX5_readDigits_46 zf_X5_29 rfl (by decide) (by decide) he1 ?_
      refine zj_callV1 (n := 52) (a' := 0) (b' := 0) rfl dX5_readDigits_49 zm_X5_214 (by decide) (by decide) rfl (Nat.le_of_ble_eq_true rfl) (Nat.le_of_ble_eq_true rfl) (Nat.le_of_ble_eq_true rfl) (Nat.le_of_ble_eq_true rfl) (jX1_at hB1 (by omega) ?_)
      rw [if_pos (show p + i < n by omega)]
      have hz9 := zDigit_iff.mp c28
      refine zj_iaddN (n := 53) rfl dX5_readDigits_52 ?_
      refine zj_bipushN (v := 48) (n := 55) rfl dX5_readDigits_53 (by decide) ?_
      refine zj_isubN (n := 56) rfl dX5_readDigits_55 (by omega) ?_
      refine zj_iminN (n := 59) rfl dX5_readDigits_56 zm_X5_250 (by decide) (Nat.le_of_ble_eq_true rfl) (by omega) (by omega) ?_
      refine zj_puti (n := 62) rfl dX5_readDigits_59 zp_X5_211 rfl (by decide) (by decide) ?_
      refine zj_aload0 (n := 63) rfl dX5_readDigits_62 ?_
      refine zj_dupr (n := 64) rfl dX5_readDigits_63 ?_
      refine zj_getiN (e := p + i) (n := 67) rfl dX5_readDigits_64 zf_X5_29 rfl (by decide) (by decide) (by dsimp only; rw [zU_nj (by decide)]; exact he1) ?_
      refine zj_iconstN_1 (n := 68) rfl dX5_readDigits_67 ?_
      refine zj_iaddN (n := 69) rfl dX5_readDigits_68 ?_
      refine zj_puti (n := 72) rfl dX5_readDigits_69 zp_X5_29 rfl (by decide) (by decide) ?_
      refine zj_goto (tgt := 0) dX5_readDigits_72 (by decide) ?_
      exact hk (by simp [c28]) _ ((hF.put (j := 7) rfl).put (j := 6) rfl) (zUn (by omega)) (by
        dsimp only
        rw [zU_nj (by decide), zU_eq, lNu_succ]
        exact congrArg nI (by omega))
  · intro hf M1 hF he1 h71
    have hB1 := hF.by_ hB
    refine zj_aload0 (n := 1) rfl dX5_readDigits_0 ?_
    refine zj_getiN (e := p + (n - p)) (n := 4) rfl dX5_readDigits_1 zf_X5_29 rfl (by decide) (by decide) he1 ?_
    refine zj_aload0 (n := 5) rfl dX5_readDigits_4 ?_
    refine zj_getr (n := 8) (q := 100) rfl dX5_readDigits_5 zf_X5_18 rfl (by decide) (by decide) rfl ?_
    refine zj_getiN (e := n) (n := 11) rfl dX5_readDigits_8 zf_X5_231 rfl (by decide) (by decide) hB1.2.1 ?_
    refine zj_icmpN_ge (n := 14) (tgt := 75) rfl dX5_readDigits_11 (by decide) (by omega) (by omega) (fun c11 => ?_) (fun c11 => by omega)
    refine zj_return dX5_readDigits_75 rfl ?_
    have e9 : lDg B n p = p + (n - p) := by unfold lDg; rw [zFst_none.mpr hf]
    exact h M1 hF (by rw [he1, e9]) (by rw [h71, e9, Nat.add_sub_cancel_left])
theorem z_nt73 {n : Nat} {B : Nat → Nat} {s : Nat} {Q : Option Value → zM → Prop} {X : String → zM → Prop} {M : zM} (hB : zBy M 100 n B) (h5 : M.1 104 5 = nI s) (h6 : M.1 104 6 = nI s) (h7 : M.1 104 7 = nI 0) (hs : s ≤ n) (h : ∀ M', zKf (fun j => j == 4 || j == 6 || j == 7) M M' → M'.1 104 5 = nI s → M'.1 104 4 = nI (sK B n s) → M'.1 104 6 = nI (sE B n s) → M'.1 104 7 = nI (if sK B n s = 2 then min 100000000 (lNu B s (sE B n s - s)) else 0) → Q none M') : zJ yX5_nextToken cX5_nextToken 1 none rX5_nextToken Q X 0 0 73 [some (.ref 104)] [] M := by
  have hl : n ≤ 1400 := hB.2.2.1
  have hb9 : s < n → B s < 256 := fun q => hB.b q
  refine zj_aload0 (n := 74) rfl dX5_nextToken_73 ?_
  refine zj_getiN (e := s) (n := 77) rfl dX5_nextToken_74 zf_X5_66 rfl (by decide) (by decide) h5 ?_
  refine zj_aload0 (n := 78) rfl dX5_nextToken_77 ?_
  refine zj_getr (n := 81) (q := 100) rfl dX5_nextToken_78 zf_X5_18 rfl (by decide) (by decide) rfl ?_
  refine zj_getiN (e := n) (n := 84) rfl dX5_nextToken_81 zf_X5_231 rfl (by decide) (by decide) hB.2.1 ?_
  refine zj_icmpN_lt (n := 87) (tgt := 95) rfl dX5_nextToken_84 (by decide) (by omega) (by omega) (fun c84 => ?_) (fun c84 => ?_)
  · refine zj_aload0 (n := 96) rfl dX5_nextToken_95 ?_
    refine zj_getr (n := 99) (q := 100) rfl dX5_nextToken_96 zf_X5_18 rfl (by decide) (by decide) rfl ?_
    refine zj_aload0 (n := 100) rfl dX5_nextToken_99 ?_
    refine zj_getiN (e := s) (n := 103) rfl dX5_nextToken_100 zf_X5_66 rfl (by decide) (by decide) h5 ?_
    refine zj_callV1 (n := 106) (a' := 0) (b' := 0) rfl dX5_nextToken_103 zm_X5_214 (by decide) (by decide) rfl (Nat.le_of_ble_eq_true rfl) (Nat.le_of_ble_eq_true rfl) (Nat.le_of_ble_eq_true rfl) (Nat.le_of_ble_eq_true rfl) (jX1_at hB (by omega) ?_)
    rw [if_pos (show s < n by omega)]
    refine zj_callS1 (n := 109) (a' := 0) (b' := 0) rfl dX5_nextToken_106 zm_X5_237 (by decide) (Nat.le_of_ble_eq_true rfl) (Nat.le_of_ble_eq_true rfl) (Nat.le_of_ble_eq_true rfl) (Nat.le_of_ble_eq_true rfl) (jX1_isLetter (c := B s) (by have := hb9 (by omega); omega) ?_)
    refine zj_ifB_eq (n := 112) (tgt := 124) rfl dX5_nextToken_109 (by decide) (fun c109 => ?_) (fun c109 => ?_)
    · refine zj_aload0 (n := 125) rfl dX5_nextToken_124 ?_
      refine zj_getr (n := 128) (q := 100) rfl dX5_nextToken_125 zf_X5_18 rfl (by decide) (by decide) rfl ?_
      refine zj_aload0 (n := 129) rfl dX5_nextToken_128 ?_
      refine zj_getiN (e := s) (n := 132) rfl dX5_nextToken_129 zf_X5_66 rfl (by decide) (by decide) h5 ?_
      refine zj_callV1 (n := 135) (a' := 0) (b' := 0) rfl dX5_nextToken_132 zm_X5_214 (by decide) (by decide) rfl (Nat.le_of_ble_eq_true rfl) (Nat.le_of_ble_eq_true rfl) (Nat.le_of_ble_eq_true rfl) (Nat.le_of_ble_eq_true rfl) (jX1_at hB (by omega) ?_)
      rw [if_pos (show s < n by omega)]
      refine zj_callS1 (n := 138) (a' := 0) (b' := 0) rfl dX5_nextToken_135 zm_X5_243 (by decide) (Nat.le_of_ble_eq_true rfl) (Nat.le_of_ble_eq_true rfl) (Nat.le_of_ble_eq_true rfl) (Nat.le_of_ble_eq_true rfl) (jX1_isDigit (c := B s) (by have := hb9 (by omega); omega) ?_)
      refine zj_ifB_eq (n := 141) (tgt := 153) rfl dX5_nextToken_138 (by decide) (fun c138 => ?_) (fun c138 => ?_)
      · refine zj_aload0 (n := 154) rfl dX5_nextToken_153 ?_
        refine zj_iconstN_3 (n := 155) rfl dX5_nextToken_154 ?_
        refine zj_puti (n := 158) rfl dX5_nextToken_155 zp_X5_38 rfl (by decide) (by decide) ?_
        refine zj_aload0 (n := 159) rfl dX5_nextToken_158 ?_
        refine zj_aload0 (n := 160) rfl dX5_nextToken_159 ?_
        refine zj_getiN (e := s) (n := 163) rfl dX5_nextToken_160 zf_X5_66 rfl (by decide) (by decide) (by dsimp only; rw [zU_nj (by decide)]; exact h5) ?_
        refine zj_iconstN_1 (n := 164) rfl dX5_nextToken_163 ?_
        refine zj_iaddN (n := 165) rfl dX5_nextToken_164 ?_
        refine zj_puti (n := 168) rfl dX5_nextToken_165 zp_X5_29 rfl (by decide) (by decide) ?_
        refine zj_return dX5_nextToken_168 rfl ?_
        have ek : sK B n s = 3 := by unfold sK; rw [if_pos (by omega), if_neg (by rw [c109]; simp), if_neg (by rw [c138]; simp)]
        have ee : sE B n s = s + 1 := by unfold sE; rw [if_pos (by omega), if_neg (by rw [c109]; simp), if_neg (by rw [c138]; simp)]
        exact h _ ((zKf.rf.put (j := 4) rfl).put (j := 6) rfl) (by dsimp only; rw [zU_nj (by decide), zU_nj (by decide)]; exact h5) (by dsimp only; rw [zU_nj (by decide), zU_eq, ek]) (by dsimp only; rw [zU_eq, ee]) (by dsimp only; rw [zU_nj (by decide), zU_nj (by decide), h7, ek]; rfl)
      · refine zj_aload0 (n := 142) rfl dX5_nextToken_141 ?_
        refine zj_iconstN_2 (n := 143) rfl dX5_nextToken_142 ?_
        refine zj_puti (n := 146) rfl dX5_nextToken_143 zp_X5_38 rfl (by decide) (by decide) ?_
        refine zj_aload0 (n := 147) rfl dX5_nextToken_146 ?_
        refine zj_callV0 (n := 150) (a' := 0) (b' := 0) rfl dX5_nextToken_147 zm_X5_246 (by decide) (by decide) rfl (Nat.le_of_ble_eq_true rfl) (Nat.le_of_ble_eq_true rfl) (Nat.le_of_ble_eq_true rfl) (Nat.le_of_ble_eq_true rfl) (jX5_readDigits (p := s) (zKf.by_ (zKf.rf.put (S := fun j => j == 4) (j := 4) rfl) hB) (by dsimp only; rw [zU_nj (by decide)]; exact h6) hs (by dsimp only; rw [zU_nj (by decide)]; exact h7) ?_)
        intro M5 hF5 h56 h57
        refine zj_goto (tgt := 168) dX5_nextToken_150 (by decide) ?_
        refine zj_return dX5_nextToken_168 rfl ?_
        have ek : sK B n s = 2 := by unfold sK; rw [if_pos (by omega), if_neg (by rw [c109]; simp), if_pos c138]
        have ee : sE B n s = lDg B n s := by unfold sE; rw [if_pos (by omega), if_neg (by rw [c109]; simp), if_pos c138]
        exact h M5 ((zKf.rf.put rfl).tr (hF5.mono (fun j hj => by cases hq : (j == 6); cases hq2 : (j == 7); rfl; simp [hq2] at hj; simp [hq] at hj))) (by rw [hF5.2.2 5 rfl]; exact (by dsimp only; rw [zU_nj (by decide)]; exact h5)) (by rw [hF5.2.2 4 rfl, ek]; exact zUe) (by rw [ee]; exact h56) (by rw [ek, if_pos rfl, ee]; exact h57)
    · refine zj_aload0 (n := 113) rfl dX5_nextToken_112 ?_
      refine zj_iconstN_1 (n := 114) rfl dX5_nextToken_113 ?_
      refine zj_puti (n := 117) rfl dX5_nextToken_114 zp_X5_38 rfl (by decide) (by decide) ?_
      refine zj_aload0 (n := 118) rfl dX5_nextToken_117 ?_
      refine zj_callV0 (n := 121) (a' := 0) (b' := 0) rfl dX5_nextToken_118 zm_X5_240 (by decide) (by decide) rfl (Nat.le_of_ble_eq_true rfl) (Nat.le_of_ble_eq_true rfl) (Nat.le_of_ble_eq_true rfl) (Nat.le_of_ble_eq_true rfl) (jX5_skipLetters (p := s) (zKf.by_ (zKf.rf.put (S := fun j => j == 4) (j := 4) rfl) hB) (by dsimp only; rw [zU_nj (by decide)]; exact h6) hs ?_)
      intro M5 hF5 h56
      refine zj_goto (tgt := 168) dX5_nextToken_121 (by decide) ?_
      refine zj_return dX5_nextToken_168 rfl ?_
      have ek : sK B n s = 1 := by unfold sK; rw [if_pos (by omega), if_pos c109]
      have ee : sE B n s = lWd B n s := by unfold sE; rw [if_pos (by omega), if_pos c109]
      exact h M5 ((zKf.rf.put rfl).tr (hF5.mono (fun j hj => by cases hq : (j == 6); rfl; simp [hq] at hj))) (by rw [hF5.2.2 5 rfl]; exact (by dsimp only; rw [zU_nj (by decide)]; exact h5)) (by rw [hF5.2.2 4 rfl, ek]; exact zUe) (by rw [ee]; exact h56) (by rw [hF5.2.2 7 rfl, ek]; dsimp only; rw [zU_nj (by decide), h7]; rfl)
  · refine zj_aload0 (n := 88) rfl dX5_nextToken_87 ?_
    refine zj_iconstN_0 (n := 89) rfl dX5_nextToken_88 ?_
    refine zj_puti (n := 92) rfl dX5_nextToken_89 zp_X5_38 rfl (by decide) (by decide) ?_
    refine zj_goto (tgt := 168) dX5_nextToken_92 (by decide) ?_
    exact zj_return dX5_nextToken_168 rfl (h _ (zKf.rf.put rfl) (by dsimp only; rw [zU_nj (by decide)]; exact h5) (by dsimp only; rw [zU_eq, sK_0.mpr (by omega)]) (by dsimp only; rw [zU_nj (by decide), h6]; unfold sE; rw [if_neg (by omega)]) (by dsimp only; rw [zU_nj (by decide), h7, sK_0.mpr (show ¬ s < n by omega)]; rfl))
theorem jX5_nextTok0 {n : Nat} {B : Nat → Nat} {e : Nat} {Q : Option Value → zM → Prop} {X : String → zM → Prop} {M : zM} (hB : zBy M 100 n B) (hc : M.1 104 2 = nI 0) (he : M.1 104 6 = nI e) (hen : e ≤ n) (h : ∀ M', zKf (fun j => j == 4 || j == 5 || j == 6 || j == 7) M M' → zTk M' n B e → Q none M') : zJ yX5_nextToken cX5_nextToken 1 none rX5_nextToken Q X rX5_nextToken.cells rX5_nextToken.slots 0 (zEnt 1 [.ref 104]) [] M := by
  have hl : n ≤ 1400 := hB.2.2.1
  have ht9 := tS_le (B := B) hen
  show zJ yX5_nextToken cX5_nextToken 1 none rX5_nextToken Q X 0 0 0 [some (.ref 104)] [] M
  refine zj_aload0 (n := 1) rfl dX5_nextToken_0 ?_
  refine zj_getiN (e := 0) (n := 4) rfl dX5_nextToken_1 zf_X5_25 rfl (by decide) (by decide) hc ?_
  refine zj_ifN_eq (n := 7) (tgt := 8) rfl dX5_nextToken_4 (by decide) (by omega) (fun _ => ?_) (fun h => absurd h (by decide))
  refine zj_aload0 (n := 9) rfl dX5_nextToken_8 ?_
  refine zj_aload0 (n := 10) rfl dX5_nextToken_9 ?_
  refine zj_getiN (e := e) (n := 13) rfl dX5_nextToken_10 zf_X5_29 rfl (by decide) (by decide) he ?_
  refine zj_puti (n := 16) rfl dX5_nextToken_13 zp_X5_66 rfl (by decide) (by decide) ?_
  refine zFind_rule (P := fun i => ∀ M1, zKf (fun j => j == 4 || j == 5 || j == 6 || j == 7) M M1 → M1.1 104 6 = nI e → M1.1 104 5 = nI (e + i) → zJ yX5_nextToken cX5_nextToken 1 none rX5_nextToken Q X 0 0 16 [some (.ref 104)] [] M1) (n := n - e) (p := fun i => !zBlank (B (e + i))) ?_ ?_ _ (zKf.rf.put (j := 5) rfl) (by dsimp only; rw [zU_nj (by decide)]; exact he) (zUn rfl)
  · intro i hi hf hk M1 hF he1 hs1
    have hB1 := hF.by_ hB
    refine zj_aload0 (n := 17) rfl dX5_nextToken_16 ?_
    refine zj_getiN (e := e + i) (n := 20) rfl dX5_nextToken_17 zf_X5_66 rfl (by decide) (by decide) hs1 ?_
    refine zj_aload0 (n := 21) rfl dX5_nextToken_20 ?_
    refine zj_getr (n := 24) (q := 100) rfl dX5_nextToken_21 zf_X5_18 rfl (by decide) (by decide) rfl ?_
    refine zj_getiN (e := n) (n := 27) rfl dX5_nextToken_24 zf_X5_231 rfl (by decide) (by decide) hB1.2.1 ?_
    refine zj_icmpN_ge (n := 30) (tgt := 60) rfl dX5_nextToken_27 (by decide) (by omega) (by omega) (fun c27 => by omega) (fun c27 => ?_)
    refine zj_aload0 (n := 31) rfl dX5_nextToken_30 ?_
    refine zj_getr (n := 34) (q := 100) rfl dX5_nextToken_31 zf_X5_18 rfl (by decide) (by decide) rfl ?_
    refine zj_aload0 (n := 35) rfl dX5_nextToken_34 ?_
    refine zj_getiN (e := e + i) (n := 38) rfl dX5_nextToken_35 zf_X5_66 rfl (by decide) (by decide) hs1 ?_
    refine zj_callV1 (n := 41) (a' := 0) (b' := 0) rfl dX5_nextToken_38 zm_X5_214 (by decide) (by decide) rfl (Nat.le_of_ble_eq_true rfl) (Nat.le_of_ble_eq_true rfl) (Nat.le_of_ble_eq_true rfl) (Nat.le_of_ble_eq_true rfl) (jX1_at hB1 (by omega) ?_)
    rw [if_pos (show e + i < n by omega)]
    have hb9 := hB1.b (show e + i < n by omega)
    refine zj_callS1 (n := 44) (a' := 0) (b' := 0) rfl dX5_nextToken_41 zm_X5_234 (by decide) (Nat.le_of_ble_eq_true rfl) (Nat.le_of_ble_eq_true rfl) (Nat.le_of_ble_eq_true rfl) (Nat.le_of_ble_eq_true rfl) (jX1_isBlank (c := B (e + i)) (by omega) ?_)
    refine zj_ifB_eq (n := 47) (tgt := 60) rfl dX5_nextToken_44 (by decide) (fun c44 => ?_) (fun c44 => ?_)
    · have hs2 : M1.1 104 5 = nI (tS B n e) := by rw [hs1]; unfold tS; rw [zFst_eq hi (by simp [c44]) hf]
      refine zj_aload0 (n := 61) rfl dX5_nextToken_60 ?_
      refine zj_aload0 (n := 62) rfl dX5_nextToken_61 ?_
      refine zj_getiN (e := tS B n e) (n := 65) rfl dX5_nextToken_62 zf_X5_66 rfl (by decide) (by decide) hs2 ?_
      refine zj_puti (n := 68) rfl dX5_nextToken_65 zp_X5_29 rfl (by decide) (by decide) ?_
      refine zj_aload0 (n := 69) rfl dX5_nextToken_68 ?_
      refine zj_iconstN_0 (n := 70) rfl dX5_nextToken_69 ?_
      refine zj_puti (n := 73) rfl dX5_nextToken_70 zp_X5_211 rfl (by decide) (by decide) ?_
      exact z_nt73 (B := B) (n := n) (s := tS B n e) (zKf.by_ ((hF.put (j := 6) rfl).put (j := 7) rfl) hB) (by dsimp only; rw [zU_nj (by decide), zU_nj (by decide)]; exact hs2) (by dsimp only; rw [zU_nj (by decide), zU_eq]) zUe ht9.2 (fun M' hF' h5 h4 h6 h7 => h M' (((hF.put (j := 6) rfl).put (j := 7) rfl).tr (hF'.mono (fun j hj => by revert hj; cases (j == 4) <;> cases (j == 6) <;> cases (j == 7) <;> simp))) ⟨h4, h5, h6, h7⟩)
    · refine zj_aload0 (n := 48) rfl dX5_nextToken_47 ?_
      refine zj_dupr (n := 49) rfl dX5_nextToken_48 ?_
      refine zj_getiN (e := e + i) (n := 52) rfl dX5_nextToken_49 zf_X5_66 rfl (by decide) (by decide) hs1 ?_
      refine zj_iconstN_1 (n := 53) rfl dX5_nextToken_52 ?_
      refine zj_iaddN (n := 54) rfl dX5_nextToken_53 ?_
      refine zj_puti (n := 57) rfl dX5_nextToken_54 zp_X5_66 rfl (by decide) (by decide) ?_
      refine zj_goto (tgt := 16) dX5_nextToken_57 (by decide) ?_
      exact hk (by simp [c44]) _ (hF.put (j := 5) rfl) (by dsimp only; rw [zU_nj (by decide)]; exact he1) (zUn (by omega))
  · intro hf M1 hF he1 hs1
    have hB1 := hF.by_ hB
    refine zj_aload0 (n := 17) rfl dX5_nextToken_16 ?_
    refine zj_getiN (e := e + (n - e)) (n := 20) rfl dX5_nextToken_17 zf_X5_66 rfl (by decide) (by decide) hs1 ?_
    refine zj_aload0 (n := 21) rfl dX5_nextToken_20 ?_
    refine zj_getr (n := 24) (q := 100) rfl dX5_nextToken_21 zf_X5_18 rfl (by decide) (by decide) rfl ?_
    refine zj_getiN (e := n) (n := 27) rfl dX5_nextToken_24 zf_X5_231 rfl (by decide) (by decide) hB1.2.1 ?_
    refine zj_icmpN_ge (n := 30) (tgt := 60) rfl dX5_nextToken_27 (by decide) (by omega) (by omega) (fun c27 => ?_) (fun c27 => by omega)
    have hs2 : M1.1 104 5 = nI (tS B n e) := by rw [hs1]; unfold tS; rw [zFst_none.mpr hf]
    refine zj_aload0 (n := 61) rfl dX5_nextToken_60 ?_
    refine zj_aload0 (n := 62) rfl dX5_nextToken_61 ?_
    refine zj_getiN (e := tS B n e) (n := 65) rfl dX5_nextToken_62 zf_X5_66 rfl (by decide) (by decide) hs2 ?_
    refine zj_puti (n := 68) rfl dX5_nextToken_65 zp_X5_29 rfl (by decide) (by decide) ?_
    refine zj_aload0 (n := 69) rfl dX5_nextToken_68 ?_
    refine zj_iconstN_0 (n := 70) rfl dX5_nextToken_69 ?_
    refine zj_puti (n := 73) rfl dX5_nextToken_70 zp_X5_211 rfl (by decide) (by decide) ?_
    exact z_nt73 (B := B) (n := n) (s := tS B n e) (zKf.by_ ((hF.put (j := 6) rfl).put (j := 7) rfl) hB) (by dsimp only; rw [zU_nj (by decide), zU_nj (by decide)]; exact hs2) (by dsimp only; rw [zU_nj (by decide), zU_eq]) zUe ht9.2 (fun M' hF' h5 h4 h6 h7 => h M' (((hF.put (j := 6) rfl).put (j := 7) rfl).tr (hF'.mono (fun j hj => by revert hj; cases (j == 4) <;> cases (j == 6) <;> cases (j == 7) <;> simp))) ⟨h4, h5, h6, h7⟩)
