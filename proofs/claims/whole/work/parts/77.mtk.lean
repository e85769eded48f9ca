/-! THE MODEL'S PARSER: tokens -/
def zGf (S : Nat → Bool) (M M1 : zM) : Prop := (∀ a, a ≠ 118 → M1.1 a = M.1 a) ∧ M1.2 = M.2 ∧ ∀ j, S j = false → M1.1 118 j = M.1 118 j
theorem zGf.rf {S : Nat → Bool} {M : zM} : zGf S M M := ⟨fun _ _ => rfl, rfl, fun _ _ => rfl⟩
theorem zGf.tr {S : Nat → Bool} {M M1 M2 : zM} (h : zGf S M M1) (h2 : zGf S M1 M2) : zGf S M M2 := ⟨fun a ha => (h2.1 a ha).trans (h.1 a ha), h2.2.1.trans h.2.1, fun j hj => (h2.2.2 j hj).trans (h.2.2 j hj)⟩
theorem zGf.mono {S T : Nat → Bool} {M M1 : zM} (h : zGf S M M1) (hs : ∀ j, T j = false → S j = false) : zGf T M M1 := ⟨h.1, h.2.1, fun j hj => h.2.2 j (hs j hj)⟩
theorem zGf.put {S : Nat → Bool} {M M1 : zM} {j : Nat} {x : Int32} (h : zGf S M M1) (hj : S j = true) : zGf S M (zU M1.1 118 j x, M1.2) := h.tr ⟨fun a ha => zU_off ha, rfl, fun i hi => by
  show zU M1.1 118 j x 118 i = _
  exact zU_nj (fun e => by subst e; rw [hj] at hi; cases hi)⟩
/-- the model's text -/
def zTt (M : zM) (n : Nat) (B : Nat → Nat) : Prop := n ≤ 1400 ∧ M.1 118 18 = nI n ∧ zBf M 129 n B
theorem zTt.gf {S : Nat → Bool} {M M1 : zM} {n : Nat} {B : Nat → Nat} (h : zTt M n B) (hF : zGf S M M1) (hS : S 18 = false) : zTt M1 n B := ⟨h.1, by rw [hF.2.2 18 hS]; exact h.2.1, h.2.2.cg (hF.1 129 (by decide))⟩
def tby (B : Nat → Nat) (n j : Nat) : Option Nat := if j < n then some (B j) else none
def zTm (M : zM) (n : Nat) (B : Nat → Nat) (e : Nat) : Prop := M.1 118 21 = nI (tK B n e) ∧ M.1 118 20 = nI (tS B n e) ∧ M.1 118 19 = nI (tE B n e) ∧ (tK B n e = 2 → M.1 118 22 = nI (min 9999999 (tN B n e))) ∧ (tK B n e = 3 → M.1 118 22 = nI (B (tS B n e)))
theorem zTm.cg {S : Nat → Bool} {M M' : zM} {n e : Nat} {B : Nat → Nat} (h : zTm M n B e) (hF : zGf S M M') (h1 : S 19 = false) (h2 : S 20 = false) (h3 : S 21 = false) (h4 : S 22 = false) : zTm M' n B e := ⟨by rw [hF.2.2 21 h3]; exact h.1, by rw [hF.2.2 20 h2]; exact h.2.1, by rw [hF.2.2 19 h1]; exact h.2.2.1, fun q => by rw [hF.2.2 22 h4]; exact h.2.2.2.1 q, fun q => by rw [hF.2.2 22 h4]; exact h.2.2.2.2 q⟩
section Z77
variable {Q : Option Value → zM → Prop} {X : String → zM → Prop} {M : zM}
theorem jX10_inN {c lo hi : Nat} (hc : c < 2 ^ 31) (hl : lo < 2 ^ 31) (hh : hi < 2 ^ 31) (h : Q (some (.int (zb (decide (lo ≤ c) && decide (c ≤ hi))))) M) : zJ yX10_in cX10_in 6 (some .boolean) rX10_in Q X rX10_in.cells rX10_in.slots 0 (zEnt 6 [.long (lN c), .long (lN lo), .long (lN hi)]) [] M := jX10_in (by
  have e : decide ((lN lo).toInt ≤ (lN c).toInt ∧ (lN c).toInt ≤ (lN hi).toInt) = (decide (lo ≤ c) && decide (c ≤ hi)) := by
    rw [pk_lT (show lo < 2 ^ 63 by omega), pk_lT (show hi < 2 ^ 63 by omega), pk_lT (show c < 2 ^ 63 by omega), ← Bool.decide_and]
    exact decide_eq_decide.mpr (by omega)
  rw [e]; exact h)
theorem jX10_inM {lo hi : Nat} (hl : lo < 2 ^ 31) (h : Q (some (.int (zb false))) M) : zJ yX10_in cX10_in 6 (some .boolean) rX10_in Q X rX10_in.cells rX10_in.slots 0 (zEnt 6 [.long (-1 : Int32).toInt64, .long (lN lo), .long (lN hi)]) [] M := jX10_in (by
  have e : decide ((lN lo).toInt ≤ (-1 : Int32).toInt64.toInt ∧ (-1 : Int32).toInt64.toInt ≤ (lN hi).toInt) = false := by
    rw [pk_lT (show lo < 2 ^ 63 by omega), zi64]
    have : (-1 : Int32).toInt = -1 := rfl
    exact decide_eq_false (by omega)
  rw [e]; exact h)
end Z77
theorem jX10_byteAt {n : Nat} {B : Nat → Nat} {j : Nat} {Q : Option Value → zM → Prop} {X : String → zM → Prop} {M : zM} (hT : zTt M n B) (hj : j < 2 ^ 31) (h : Q (some (.int (zo (tby B n j)))) M) : zJ yX10_byteAt cX10_byteAt 2 (some .int) rX10_byteAt Q X rX10_byteAt.cells rX10_byteAt.slots 0 (zEnt 2 [.ref 118, .int (nI j)]) [] M := by
  have hn := hT.1
  show zJ yX10_byteAt cX10_byteAt 2 (some .int) rX10_byteAt Q X 0 0 0 [some (.ref 118), some (.int (nI j))] [] M
  refine zj_iload1 (n := 1) rfl dX10_byteAt_0 ?_
  refine zj_aload0 (n := 2) rfl dX10_byteAt_1 ?_
  refine zj_getiN (e := n) (n := 5) rfl dX10_byteAt_2 zf_X10_233 rfl (by decide) (by decide) hT.2.1 ?_
  refine zj_icmpN_ge (n := 8) (tgt := 21) rfl dX10_byteAt_5 (by decide) (by omega) (by omega) (fun c5 => ?_) (fun c5 => ?_)
  · refine zj_iconst_m1 (n := 22) rfl dX10_byteAt_21 ?_
    exact zj_ireturn dX10_byteAt_22 rfl rfl (zQi h (by unfold tby; rw [if_neg (by omega)]; rfl))
  · refine zj_aload0 (n := 9) rfl dX10_byteAt_8 ?_
    refine zj_getr (n := 12) (q := 129) rfl dX10_byteAt_9 zf_X10_46 rfl (by decide) (by decide) rfl ?_
    refine zj_iload1 (n := 13) rfl dX10_byteAt_12 ?_
    refine zj_baloadW (x := zsx (B j)) (n := 14) rfl dX10_byteAt_13 (by decide) (by decide) (by rw [show zLen 129 = 1400 from rfl]; omega) (hT.2.2 j (by omega)).2 ?_
    refine zj_sipushN (v := 255) (n := 17) rfl dX10_byteAt_14 (by decide) ?_
    refine zj_iand (n := 18) rfl dX10_byteAt_17 ?_
    rw [zsx_and _ (hT.2.2 j (by omega)).1]
    refine zj_goto (tgt := 22) dX10_byteAt_18 (by decide) ?_
    exact zj_ireturn dX10_byteAt_22 rfl rfl (zQi h (by unfold tby; rw [if_pos (by omega)]; rfl))
def tlet (f : Nat → Bool) (B : Nat → Nat) (n j : Nat) : Bool := decide (j < n) && f (B j)
theorem tby_s {B : Nat → Nat} {n j m : Nat} (h : tby B n j = some m) : j < n ∧ m = B j := by
  unfold tby at h
  split at h
  · exact ⟨by assumption, (Option.some.inj h).symm⟩
  · cases h
theorem tby_n {B : Nat → Nat} {n j : Nat} (h : tby B n j = none) : ¬ j < n := by
  unfold tby at h
  split at h
  · cases h
  · assumption
theorem tby_eq {B : Nat → Nat} {n j k : Nat} (hb : j < n → B j < 256) (hk : k < 2 ^ 31) : zo (tby B n j) = nI k ↔ j < n ∧ B j = k := by
  unfold tby
  by_cases q : j < n
  · rw [if_pos q]
    have := hb q
    exact (nI_eq (by omega) hk).trans (by simp [q])
  · rw [if_neg q]
    constructor
    · intro e
      exact absurd e.symm (nI_ne_m1 hk)
    · intro e; exact absurd e.1 q
theorem tst_at {f : Nat → Bool} {B : Nat → Nat} {n e i : Nat} (hi : i ≤ n - e) (he : e ≤ n) (hf : ∀ j, j < i → (!tlet f B n (e + j)) = false) (hx : tlet f B n (e + i) = false) : zFst (n - e) (fun i => !f (B (e + i))) = i := by
  have h1 : ∀ j, j < i → (!f (B (e + j))) = false := fun j hj => by
    have := hf j hj
    unfold tlet at this
    rw [decide_eq_true (show e + j < n by omega), Bool.true_and] at this
    exact this
  rcases Nat.lt_or_ge i (n - e) with q | q
  · refine zFst_eq q ?_ h1
    unfold tlet at hx
    rw [decide_eq_true (show e + i < n by omega), Bool.true_and] at hx
    simp [hx]
  · have e9 : i = n - e := by omega
    rw [e9] at h1
    rw [zFst_none.mpr h1, e9]
theorem tlet_end {f : Nat → Bool} {B : Nat → Nat} {n e : Nat} (he : e ≤ n) (hf : ∀ j, j < n - e + 1 → (!tlet f B n (e + j)) = false) : False := by
  have := hf (n - e) (by omega)
  unfold tlet at this
  rw [decide_eq_false (by omega)] at this
  cases this
section Z77b
variable {Q : Option Value → zM → Prop} {X : String → zM → Prop} {M : zM}
theorem jX10_inO {B : Nat → Nat} {n j lo hi : Nat} (hb : j < n → B j < 256) (hl : lo < 2 ^ 31) (hh : hi < 2 ^ 31) (h : Q (some (.int (zb (tlet (fun c => decide (lo ≤ c) && decide (c ≤ hi)) B n j)))) M) : zJ yX10_in cX10_in 6 (some .boolean) rX10_in Q X rX10_in.cells rX10_in.slots 0 (zEnt 6 [.long (zo (tby B n j)).toInt64, .long (lN lo), .long (lN hi)]) [] M := by
  by_cases q : j < n
  · have := hb q
    rw [show zo (tby B n j) = nI (B j) from by unfold tby; rw [if_pos q]; rfl, nI_l (by omega)]
    refine jX10_inN (by omega) hl hh ?_
    unfold tlet at h
    rw [decide_eq_true q, Bool.true_and] at h
    exact h
  · rw [show zo (tby B n j) = -1 from by unfold tby; rw [if_neg q]; rfl]
    refine jX10_inM hl ?_
    unfold tlet at h
    rw [decide_eq_false q, Bool.false_and] at h
    exact h
theorem jX10_inLO {B : Nat → Nat} {n j : Nat} (hb : j < n → B j < 256) (h : Q (some (.int (zb (tlet zLetter B n j)))) M) : zJ yX10_in cX10_in 6 (some .boolean) rX10_in Q X rX10_in.cells rX10_in.slots 0 (zEnt 6 [.long (zo (tby B n j)).toInt64, .long (lN 97), .long (lN 122)]) [] M := jX10_inO hb (by decide) (by decide) h
theorem jX10_inDO {B : Nat → Nat} {n j : Nat} (hb : j < n → B j < 256) (h : Q (some (.int (zb (tlet zDigit B n j)))) M) : zJ yX10_in cX10_in 6 (some .boolean) rX10_in Q X rX10_in.cells rX10_in.slots 0 (zEnt 6 [.long (zo (tby B n j)).toInt64, .long (lN 48), .long (lN 57)]) [] M := jX10_inO hb (by decide) (by decide) h
theorem jX10_inL {c : Nat} (hc : c < 2 ^ 31) (h : Q (some (.int (zb (zLetter c)))) M) : zJ yX10_in cX10_in 6 (some .boolean) rX10_in Q X rX10_in.cells rX10_in.slots 0 (zEnt 6 [.long (lN c), .long (lN 97), .long (lN 122)]) [] M := jX10_inN hc (by decide) (by decide) h
theorem jX10_inD {c : Nat} (hc : c < 2 ^ 31) (h : Q (some (.int (zb (zDigit c)))) M) : zJ yX10_in cX10_in 6 (some .boolean) rX10_in Q X rX10_in.cells rX10_in.slots 0 (zEnt 6 [.long (lN c), .long (lN 48), .long (lN 57)]) [] M := jX10_inN hc (by decide) (by decide) h
end Z77b
theorem z_sc83 {n : Nat} {B : Nat → Nat} {p : Nat} {c0 : Int32} {Q : Option Value → zM → Prop} {X : String → zM → Prop} {M : zM} (hT : zTt M n B) (he : M.1 118 19 = nI p) (hp : p ≤ n) (h : ∀ M', zGf (fun j => j == 19 || j == 21) M M' → M'.1 118 19 = nI (lWd B n p) → M'.1 118 21 = nI 1 → Q none M') : zJ yX10_scan cX10_scan 2 none rX10_scan Q X 0 0 83 [some (.ref 118), some (.int (c0))] [] M := by
  have hn := hT.1
  refine zFind_rule (P := fun i => ∀ M1, zGf (fun j => j == 19) M M1 → M1.1 118 19 = nI (p + i) → zJ yX10_scan cX10_scan 2 none rX10_scan Q X 0 0 83 [some (.ref 118), some (.int (c0))] [] M1) (n := n - p + 1) (p := fun i => !tlet zLetter B n (p + i)) ?_ ?_ M zGf.rf he
  · intro i hi hf hk M1 hF he1
    have hT1 := hT.gf hF rfl
    refine zj_aload0 (n := 84) rfl dX10_scan_83 ?_
    refine zj_aload0 (n := 85) rfl dX10_scan_84 ?_
    refine zj_getiN (e := p + i) (n := 88) rfl dX10_scan_85 zf_X10_236 rfl (by decide) (by decide) he1 ?_
    refine zj_callV1 (n := 91) (a' := 0) (b' := 0) rfl dX10_scan_88 zm_X10_239 (by decide) (by decide) rfl (Nat.le_of_ble_eq_true rfl) (Nat.le_of_ble_eq_true rfl) (Nat.le_of_ble_eq_true rfl) (Nat.le_of_ble_eq_true rfl) (jX10_byteAt hT1 (by omega) ?_)
    refine zj_i2l (n := 92) rfl dX10_scan_91 ?_
    refine zj_ldc2N (v := 97) (n := 95) rfl dX10_scan_92 zc_X10_245 ?_
    refine zj_ldc2N (v := 122) (n := 98) rfl dX10_scan_95 zc_X10_247 ?_
    refine zj_callS3 (n := 101) (a' := 0) (b' := 0) rfl dX10_scan_98 zm_X10_62 (by decide) (Nat.le_of_ble_eq_true rfl) (Nat.le_of_ble_eq_true rfl) (Nat.le_of_ble_eq_true rfl) (Nat.le_of_ble_eq_true rfl) (jX10_inLO (B := B) (n := n) (j := p + i) (fun q => (hT1.2.2 _ q).1) ?_)
    refine zj_ifB_eq (n := 104) (tgt := 117) rfl dX10_scan_101 (by decide) (fun c101 => ?_) (fun c101 => ?_)
    · refine zj_aload0 (n := 118) rfl dX10_scan_117 ?_
      refine zj_iconstN_1 (n := 119) rfl dX10_scan_118 ?_
      refine zj_puti (n := 122) rfl dX10_scan_119 zp_X10_242 rfl (by decide) (by decide) ?_
      refine zj_goto (tgt := 235) dX10_scan_122 (by decide) ?_
      exact zj_return dX10_scan_235 rfl (h _ ((hF.mono (fun j hj => by cases q : (j == 19); rfl; simp [q] at hj)).put (j := 21) rfl) (by dsimp only; rw [zU_nj (by decide), he1]; unfold lWd; rw [tst_at (by omega) hp hf c101]) zUe)
    · refine zj_aload0 (n := 105) rfl dX10_scan_104 ?_
      refine zj_dupr (n := 106) rfl dX10_scan_105 ?_
      refine zj_getiN (e := p + i) (n := 109) rfl dX10_scan_106 zf_X10_236 rfl (by decide) (by decide) he1 ?_
      refine zj_iconstN_1 (n := 110) rfl dX10_scan_109 ?_
      refine zj_iaddN (n := 111) rfl dX10_scan_110 ?_
      refine zj_puti (n := 114) rfl dX10_scan_111 zp_X10_236 rfl (by decide) (by decide) ?_
      refine zj_goto (tgt := 83) dX10_scan_114 (by decide) ?_
      exact hk (by simp [c101]) _ (hF.put rfl) (zUn (by omega))
  · intro hf
    exact (tlet_end hp hf).elim
theorem z_sc144 {n : Nat} {B : Nat → Nat} {p : Nat} {c0 : Int32} {Q : Option Value → zM → Prop} {X : String → zM → Prop} {M : zM} (hT : zTt M n B) (he : M.1 118 19 = nI p) (hv : M.1 118 22 = nI 0) (hp : p ≤ n) (h : ∀ M', zGf (fun j => j == 19 || j == 21 || j == 22) M M' → M'.1 118 19 = nI (lDg B n p) → M'.1 118 21 = nI 2 → M'.1 118 22 = nI (min 9999999 (lNu B p (lDg B n p - p))) → Q none M') : zJ yX10_scan cX10_scan 2 none rX10_scan Q X 0 0 144 [some (.ref 118), some (.int (c0))] [] M := by
  have hn := hT.1
  refine zFind_rule (P := fun i => ∀ M1, zGf (fun j => j == 19 || j == 22) M M1 → M1.1 118 19 = nI (p + i) → M1.1 118 22 = nI (min 9999999 (lNu B p i)) → zJ yX10_scan cX10_scan 2 none rX10_scan Q X 0 0 144 [some (.ref 118), some (.int (c0))] [] M1) (n := n - p + 1) (p := fun i => !tlet zDigit B n (p + i)) ?_ ?_ M zGf.rf he hv
  · intro i hi hf hk M1 hF he1 hv1
    have hT1 := hT.gf hF rfl
    refine zj_aload0 (n := 145) rfl dX10_scan_144 ?_
    refine zj_aload0 (n := 146) rfl dX10_scan_145 ?_
    refine zj_getiN (e := p + i) (n := 149) rfl dX10_scan_146 zf_X10_236 rfl (by decide) (by decide) he1 ?_
    refine zj_callV1 (n := 152) (a' := 0) (b' := 0) rfl dX10_scan_149 zm_X10_239 (by decide) (by decide) rfl (Nat.le_of_ble_eq_true rfl) (Nat.le_of_ble_eq_true rfl) (Nat.le_of_ble_eq_true rfl) (Nat.le_of_ble_eq_true rfl) (jX10_byteAt hT1 (by omega) ?_)
    refine zj_i2l (n := 153) rfl dX10_scan_152 ?_
    refine zj_ldc2N (v := 48) (n := 156) rfl dX10_scan_153 zc_X10_249 ?_
    refine zj_ldc2N (v := 57) (n := 159) rfl dX10_scan_156 zc_X10_251 ?_
    refine zj_callS3 (n := 162) (a' := 0) (b' := 0) rfl dX10_scan_159 zm_X10_62 (by decide) (Nat.le_of_ble_eq_true rfl) (Nat.le_of_ble_eq_true rfl) (Nat.le_of_ble_eq_true rfl) (Nat.le_of_ble_eq_true rfl) (jX10_inDO (B := B) (n := n) (j := p + i) (fun q => (hT1.2.2 _ q).1) ?_)
    refine zj_ifB_eq (n := 165) (tgt := 207) rfl dX10_scan_162 (by decide) (fun c162 => ?_) (fun c162 => ?_)
    · refine zj_aload0 (n := 208) rfl dX10_scan_207 ?_
      refine zj_iconstN_2 (n := 209) rfl dX10_scan_208 ?_
      refine zj_puti (n := 212) rfl dX10_scan_209 zp_X10_242 rfl (by decide) (by decide) ?_
      refine zj_goto (tgt := 235) dX10_scan_212 (by decide) ?_
      refine zj_return dX10_scan_235 rfl ?_
      have e9 : lDg B n p = p + i := by unfold lDg; rw [tst_at (by omega) hp hf c162]
      exact h _ ((hF.mono (fun j hj => by cases q : (j == 19); cases q2 : (j == 22); rfl; simp [q2] at hj; simp [q] at hj)).put (j := 21) rfl) (by dsimp only; rw [zU_nj (by decide), he1, e9]) zUe (by dsimp only; rw [zU_nj (by decide), hv1, e9, Nat.add_sub_cancel_left])
    · refine zj_aload0 (n := 166) rfl dX10_scan_165 ?_
      refine zj_ldcwN (v := 9999999) (n := 169) rfl dX10_scan_166 zc_X10_256 ?_
      refine zj_bipushN (v := 10) (n := 171) rfl dX10_scan_169 (by decide) ?_
      refine zj_aload0 (n := 172) rfl dX10_scan_171 ?_
      refine zj_getiN (e := min 9999999 (lNu B p i)) (n := 175) rfl dX10_scan_172 zf_X10_253 rfl (by decide) (by decide) hv1 ?_
      refine zj_imulN (n := 176) rfl dX10_scan_175 ?_
      refine zj_aload0 (n := 177) rfl dX10_scan_176 ?_
      refine zj_aload0 (n := 178) rfl dX10_scan_177 ?_
      refine zj_getiN (e := p + i) (n := 181) rfl dX10_scan_178 zf_X10_236 rfl (by decide) (by decide) he1 ?_
      refine zj_callV1 (n := 184) (a' := 0) (b' := 0) rfl dX10_scan_181 zm_X10_239 (by decide) (by decide) rfl (Nat.le_of_ble_eq_true rfl) (Nat.le_of_ble_eq_true rfl) (Nat.le_of_ble_eq_true rfl) (Nat.le_of_ble_eq_true rfl) (jX10_byteAt hT1 (by omega) ?_)
      have hpi : p + i < n := by
        unfold tlet at c162
        rw [Bool.and_eq_true, decide_eq_true_eq] at c162
        exact c162.1
      have hz9 : 48 ≤ B (p + i) ∧ B (p + i) ≤ 57 := zDigit_iff.mp (by unfold tlet at c162; rw [Bool.and_eq_true] at c162; exact c162.2)
      rw [show zo (tby B n (p + i)) = nI (B (p + i)) from by unfold tby; rw [if_pos hpi]; rfl]
      refine zj_iaddN (n := 185) rfl dX10_scan_184 ?_
      refine zj_bipushN (v := 48) (n := 187) rfl dX10_scan_185 (by decide) ?_
      refine zj_isubN (n := 188) rfl dX10_scan_187 (by omega) ?_
      refine zj_iminN (n := 191) rfl dX10_scan_188 zm_X10_170 (by decide) (Nat.le_of_ble_eq_true rfl) (by omega) (by omega) ?_
      refine zj_puti (n := 194) rfl dX10_scan_191 zp_X10_253 rfl (by decide) (by decide) ?_
      refine zj_aload0 (n := 195) rfl dX10_scan_194 ?_
      refine zj_dupr (n := 196) rfl dX10_scan_195 ?_
      refine zj_getiN (e := p + i) (n := 199) rfl dX10_scan_196 zf_X10_236 rfl (by decide) (by decide) (by dsimp only; rw [zU_nj (by decide)]; exact he1) ?_
      refine zj_iconstN_1 (n := 200) rfl dX10_scan_199 ?_
      refine zj_iaddN (n := 201) rfl dX10_scan_200 ?_
      refine zj_puti (n := 204) rfl dX10_scan_201 zp_X10_236 rfl (by decide) (by decide) ?_
      refine zj_goto (tgt := 144) dX10_scan_204 (by decide) ?_
      exact hk (by simp [c162]) _ ((hF.put (j := 22) rfl).put (j := 19) rfl) (zUn (by omega)) (by
        dsimp only
        rw [zU_nj (by decide), zU_eq, lNu_succ]
        exact congrArg nI (by omega))
  · intro hf
    exact (tlet_end hp hf).elim
theorem z_sc39 {n : Nat} {B : Nat → Nat} {s : Nat} {Q : Option Value → zM → Prop} {X : String → zM → Prop} {M : zM} (hT : zTt M n B) (he : M.1 118 19 = nI s) (hs : s ≤ n) (h : ∀ M', zGf (fun j => j == 19 || j == 20 || j == 21 || j == 22) M M' → M'.1 118 20 = nI s → M'.1 118 21 = nI (sK B n s) → M'.1 118 19 = nI (sE B n s) → (sK B n s = 2 → M'.1 118 22 = nI (min 9999999 (lNu B s (sE B n s - s)))) → (sK B n s = 3 → M'.1 118 22 = nI (B s)) → Q none M') : zJ yX10_scan cX10_scan 2 none rX10_scan Q X 0 0 39 [some (.ref 118), none] [] M := by
  have hn := hT.1
  refine zj_aload0 (n := 40) rfl dX10_scan_39 ?_
  refine zj_aload0 (n := 41) rfl dX10_scan_40 ?_
  refine zj_getiN (e := s) (n := 44) rfl dX10_scan_41 zf_X10_236 rfl (by decide) (by decide) he ?_
  refine zj_puti (n := 47) rfl dX10_scan_44 zp_X10_230 rfl (by decide) (by decide) ?_
  refine zj_aload0 (n := 48) rfl dX10_scan_47 ?_
  refine zj_aload0 (n := 49) rfl dX10_scan_48 ?_
  refine zj_getiN (e := s) (n := 52) rfl dX10_scan_49 zf_X10_236 rfl (by decide) (by decide) (by dsimp only; rw [zU_nj (by decide)]; exact he) ?_
  refine zj_callV1 (n := 55) (a' := 0) (b' := 0) rfl dX10_scan_52 zm_X10_239 (by decide) (by decide) rfl (Nat.le_of_ble_eq_true rfl) (Nat.le_of_ble_eq_true rfl) (Nat.le_of_ble_eq_true rfl) (Nat.le_of_ble_eq_true rfl) (jX10_byteAt (hT.gf (zGf.rf.put (S := fun j => j == 20) rfl) rfl) (by omega) ?_)
  refine zj_istore1 (n := 56) rfl dX10_scan_55 rfl (Nat.le_of_ble_eq_true rfl) ?_
  refine zj_iload1 (n := 57) rfl dX10_scan_56 ?_
  refine zj_iconst_m1 (n := 58) rfl dX10_scan_57 ?_
  refine zj_icmpO_ne (n := 61) (tgt := 69) rfl dX10_scan_58 (by decide) (fun m hm => by obtain ⟨q1, rfl⟩ := tby_s hm; have := (hT.2.2 s q1).1; omega) (fun m58 c58 => ?_) (fun c58 => ?_)
  · obtain ⟨hsn, rfl⟩ := tby_s c58
    have hb9 := (hT.2.2 s hsn).1
    rw [show zo (tby B n s) = nI (B s) from by rw [c58]; rfl]
    refine zj_iload1 (n := 70) rfl dX10_scan_69 ?_
    refine zj_i2lN (n := 71) rfl dX10_scan_70 (by omega) ?_
    refine zj_ldc2N (v := 97) (n := 74) rfl dX10_scan_71 zc_X10_245 ?_
    refine zj_ldc2N (v := 122) (n := 77) rfl dX10_scan_74 zc_X10_247 ?_
    refine zj_callS3 (n := 80) (a' := 0) (b' := 0) rfl dX10_scan_77 zm_X10_62 (by decide) (Nat.le_of_ble_eq_true rfl) (Nat.le_of_ble_eq_true rfl) (Nat.le_of_ble_eq_true rfl) (Nat.le_of_ble_eq_true rfl) (jX10_inL (c := B s) (by omega) ?_)
    refine zj_ifB_eq (n := 83) (tgt := 125) rfl dX10_scan_80 (by decide) (fun c80 => ?_) (fun c80 => ?_)
    · refine zj_iload1 (n := 126) rfl dX10_scan_125 ?_
      refine zj_i2lN (n := 127) rfl dX10_scan_126 (by omega) ?_
      refine zj_ldc2N (v := 48) (n := 130) rfl dX10_scan_127 zc_X10_249 ?_
      refine zj_ldc2N (v := 57) (n := 133) rfl dX10_scan_130 zc_X10_251 ?_
      refine zj_callS3 (n := 136) (a' := 0) (b' := 0) rfl dX10_scan_133 zm_X10_62 (by decide) (Nat.le_of_ble_eq_true rfl) (Nat.le_of_ble_eq_true rfl) (Nat.le_of_ble_eq_true rfl) (Nat.le_of_ble_eq_true rfl) (jX10_inD (c := B s) (by omega) ?_)
      refine zj_ifB_eq (n := 139) (tgt := 215) rfl dX10_scan_136 (by decide) (fun c136 => ?_) (fun c136 => ?_)
      · refine zj_aload0 (n := 216) rfl dX10_scan_215 ?_
        refine zj_iconstN_3 (n := 217) rfl dX10_scan_216 ?_
        refine zj_puti (n := 220) rfl dX10_scan_217 zp_X10_242 rfl (by decide) (by decide) ?_
        refine zj_aload0 (n := 221) rfl dX10_scan_220 ?_
        refine zj_iload1 (n := 222) rfl dX10_scan_221 ?_
        refine zj_puti (n := 225) rfl dX10_scan_222 zp_X10_253 rfl (by decide) (by decide) ?_
        refine zj_aload0 (n := 226) rfl dX10_scan_225 ?_
        refine zj_dupr (n := 227) rfl dX10_scan_226 ?_
        refine zj_getiN (e := s) (n := 230) rfl dX10_scan_227 zf_X10_236 rfl (by decide) (by decide) (by dsimp only; rw [zU_nj (by decide), zU_nj (by decide), zU_nj (by decide)]; exact he) ?_
        refine zj_iconstN_1 (n := 231) rfl dX10_scan_230 ?_
        refine zj_iaddN (n := 232) rfl dX10_scan_231 ?_
        refine zj_puti (n := 235) rfl dX10_scan_232 zp_X10_236 rfl (by decide) (by decide) ?_
        refine zj_return dX10_scan_235 rfl ?_
        have ek : sK B n s = 3 := by unfold sK; rw [if_pos hsn, if_neg (by rw [c80]; simp), if_neg (by rw [c136]; simp)]
        have ee : sE B n s = s + 1 := by unfold sE; rw [if_pos hsn, if_neg (by rw [c80]; simp), if_neg (by rw [c136]; simp)]
        exact h _ (((((zGf.rf (S := (fun j => j == 19 || j == 20 || j == 21 || j == 22))).put (j := 20) rfl).put (j := 21) rfl).put (j := 22) rfl).put (j := 19) rfl) (by dsimp only; rw [zU_nj (by decide), zU_nj (by decide), zU_nj (by decide), zU_eq]) (by dsimp only; rw [zU_nj (by decide), zU_nj (by decide), zU_eq, ek]) (by dsimp only; rw [zU_eq, ee]) (fun q => absurd q (by rw [ek]; decide)) (fun _ => by dsimp only; rw [zU_nj (by decide), zU_eq])
      · refine zj_aload0 (n := 140) rfl dX10_scan_139 ?_
        refine zj_iconstN_0 (n := 141) rfl dX10_scan_140 ?_
        refine zj_puti (n := 144) rfl dX10_scan_141 zp_X10_253 rfl (by decide) (by decide) ?_
        have ek : sK B n s = 2 := by unfold sK; rw [if_pos hsn, if_neg (by rw [c80]; simp), if_pos c136]
        have ee : sE B n s = lDg B n s := by unfold sE; rw [if_pos hsn, if_neg (by rw [c80]; simp), if_pos c136]
        exact z_sc144 (hT.gf ((zGf.rf.put (S := fun j => j == 20 || j == 22) (j := 20) rfl).put (j := 22) rfl) rfl) (by dsimp only; rw [zU_nj (by decide), zU_nj (by decide)]; exact he) zUe hs (fun M' hF h19 h21 h22 => h M' ((((zGf.rf (S := (fun j => j == 19 || j == 20 || j == 21 || j == 22))).put (j := 20) rfl).put (j := 22) rfl).tr (hF.mono (fun j hj => by revert hj; cases (j == 19) <;> cases (j == 21) <;> cases (j == 22) <;> simp))) (by rw [hF.2.2 20 rfl]; dsimp only; rw [zU_nj (by decide)]; exact zU_eq) (by rw [h21, ek]) (by rw [h19, ee]) (fun _ => by rw [h22, ee]) (fun q => absurd q (by rw [ek]; decide)))
    · have ek : sK B n s = 1 := by unfold sK; rw [if_pos hsn, if_pos c80]
      have ee : sE B n s = lWd B n s := by unfold sE; rw [if_pos hsn, if_pos c80]
      exact z_sc83 (hT.gf (zGf.rf.put (S := fun j => j == 20) (j := 20) rfl) rfl) (by dsimp only; rw [zU_nj (by decide)]; exact he) hs (fun M' hF h19 h21 => h M' (((zGf.rf (S := (fun j => j == 19 || j == 20 || j == 21 || j == 22))).put (j := 20) rfl).tr (hF.mono (fun j hj => by revert hj; cases (j == 19) <;> cases (j == 21) <;> simp))) (by rw [hF.2.2 20 rfl]; exact zUe) (by rw [h21, ek]) (by rw [h19, ee]) (fun q => absurd q (by rw [ek]; decide)) (fun q => absurd q (by rw [ek]; decide)))
  · refine zj_aload0 (n := 62) rfl dX10_scan_61 ?_
    refine zj_iconstN_0 (n := 63) rfl dX10_scan_62 ?_
    refine zj_puti (n := 66) rfl dX10_scan_63 zp_X10_242 rfl (by decide) (by decide) ?_
    refine zj_goto (tgt := 235) dX10_scan_66 (by decide) ?_
    refine zj_return dX10_scan_235 rfl ?_
    have hsn := tby_n c58
    exact h _ (((zGf.rf (S := (fun j => j == 19 || j == 20 || j == 21 || j == 22))).put (j := 20) rfl).put (j := 21) rfl) (by dsimp only; rw [zU_nj (by decide), zU_eq]) (by dsimp only; rw [zU_eq, sK_0.mpr hsn]) (by dsimp only; rw [zU_nj (by decide), zU_nj (by decide), he]; unfold sE; rw [if_neg hsn]) (fun q => absurd q (by rw [sK_0.mpr hsn]; decide)) (fun q => absurd q (by rw [sK_0.mpr hsn]; decide))
theorem jX10_scan0 {n : Nat} {B : Nat → Nat} {e : Nat} {Q : Option Value → zM → Prop} {X : String → zM → Prop} {M : zM} (hT : zTt M n B) (he : M.1 118 19 = nI e) (hen : e ≤ n) (h : ∀ M', zGf (fun j => j == 19 || j == 20 || j == 21 || j == 22) M M' → zTm M' n B e → Q none M') : zJ yX10_scan cX10_scan 2 none rX10_scan Q X rX10_scan.cells rX10_scan.slots 0 (zEnt 2 [.ref 118]) [] M := by
  have hn := hT.1
  show zJ yX10_scan cX10_scan 2 none rX10_scan Q X 0 0 0 [some (.ref 118), none] [] M
  refine zFind_rule (P := fun i => ∀ M1, zGf (fun j => j == 19) M M1 → M1.1 118 19 = nI (e + i) → zJ yX10_scan cX10_scan 2 none rX10_scan Q X 0 0 0 [some (.ref 118), none] [] M1) (n := n - e + 1) (p := fun i => !tlet zBlank B n (e + i)) ?_ ?_ M zGf.rf he
  · intro i hi hf hk M1 hF he1
    have hT1 := hT.gf hF rfl
    refine zj_aload0 (n := 1) rfl dX10_scan_0 ?_
    refine zj_aload0 (n := 2) rfl dX10_scan_1 ?_
    refine zj_getiN (e := e + i) (n := 5) rfl dX10_scan_2 zf_X10_236 rfl (by decide) (by decide) he1 ?_
    refine zj_callV1 (n := 8) (a' := 0) (b' := 0) rfl dX10_scan_5 zm_X10_239 (by decide) (by decide) rfl (Nat.le_of_ble_eq_true rfl) (Nat.le_of_ble_eq_true rfl) (Nat.le_of_ble_eq_true rfl) (Nat.le_of_ble_eq_true rfl) (jX10_byteAt hT1 (by omega) ?_)
    refine zj_bipushN (v := 32) (n := 10) rfl dX10_scan_8 (by decide) ?_
    refine zj_icmp_eq (n := 13) (tgt := 26) rfl dX10_scan_10 (by decide) (fun c10 => ?_) (fun c10 => ?_)
    · refine zj_aload0 (n := 27) rfl dX10_scan_26 ?_
      refine zj_dupr (n := 28) rfl dX10_scan_27 ?_
      refine zj_getiN (e := e + i) (n := 31) rfl dX10_scan_28 zf_X10_236 rfl (by decide) (by decide) he1 ?_
      refine zj_iconstN_1 (n := 32) rfl dX10_scan_31 ?_
      refine zj_iaddN (n := 33) rfl dX10_scan_32 ?_
      refine zj_puti (n := 36) rfl dX10_scan_33 zp_X10_236 rfl (by decide) (by decide) ?_
      refine zj_goto (tgt := 0) dX10_scan_36 (by decide) ?_
      have hx9 : tlet zBlank B n (e + i) = true := by
        have hb9 : e + i < n → B (e + i) < 256 := fun q => (hT1.2.2 _ q).1
        obtain ⟨q1, q2⟩ := (tby_eq hb9 (by decide)).mp c10
        unfold tlet zBlank
        rw [decide_eq_true q1, q2]
        rfl
      exact hk (by rw [hx9]; rfl) _ (hF.put rfl) (zUn (by omega))
    · refine zj_aload0 (n := 14) rfl dX10_scan_13 ?_
      refine zj_aload0 (n := 15) rfl dX10_scan_14 ?_
      refine zj_getiN (e := e + i) (n := 18) rfl dX10_scan_15 zf_X10_236 rfl (by decide) (by decide) he1 ?_
      refine zj_callV1 (n := 21) (a' := 0) (b' := 0) rfl dX10_scan_18 zm_X10_239 (by decide) (by decide) rfl (Nat.le_of_ble_eq_true rfl) (Nat.le_of_ble_eq_true rfl) (Nat.le_of_ble_eq_true rfl) (Nat.le_of_ble_eq_true rfl) (jX10_byteAt hT1 (by omega) ?_)
      refine zj_bipushN (v := 10) (n := 23) rfl dX10_scan_21 (by decide) ?_
      refine zj_icmp_ne (n := 26) (tgt := 39) rfl dX10_scan_23 (by decide) (fun c23 => ?_) (fun c23 => ?_)
      · have hx9 : tlet zBlank B n (e + i) = false := by
          have hb9 : e + i < n → B (e + i) < 256 := fun q => (hT1.2.2 _ q).1
          have h32 := (fun w => c10 ((tby_eq hb9 (by decide)).mpr w) : ¬ (e + i < n ∧ B (e + i) = 32))
          have h10 := (fun w => c23 ((tby_eq hb9 (by decide)).mpr w) : ¬ (e + i < n ∧ B (e + i) = 10))
          unfold tlet zBlank
          by_cases q : e + i < n
          · rw [decide_eq_false (show ¬ B (e + i) = 32 from fun w => h32 ⟨q, w⟩), decide_eq_false (show ¬ B (e + i) = 10 from fun w => h10 ⟨q, w⟩)]
            simp
          · rw [decide_eq_false q]; rfl
        have e9 : tS B n e = e + i := by unfold tS; rw [tst_at (by omega) hen hf hx9]
        rw [← e9] at he1
        exact z_sc39 hT1 he1 (tS_le hen).2 (fun M' hF' h20 h21 h19 h22 h23 => h M' ((hF.mono (fun j hj => by revert hj; cases (j == 19) <;> simp)).tr hF') ⟨h21, h20, h19, h22, h23⟩)
      · refine zj_aload0 (n := 27) rfl dX10_scan_26 ?_
        refine zj_dupr (n := 28) rfl dX10_scan_27 ?_
        refine zj_getiN (e := e + i) (n := 31) rfl dX10_scan_28 zf_X10_236 rfl (by decide) (by decide) he1 ?_
        refine zj_iconstN_1 (n := 32) rfl dX10_scan_31 ?_
        refine zj_iaddN (n := 33) rfl dX10_scan_32 ?_
        refine zj_puti (n := 36) rfl dX10_scan_33 zp_X10_236 rfl (by decide) (by decide) ?_
        refine zj_goto (tgt := 0) dX10_scan_36 (by decide) ?_
        have hx9 : tlet zBlank B n (e + i) = true := by
          have hb9 : e + i < n → B (e + i) < 256 := fun q => (hT1.2.2 _ q).1
          obtain ⟨q1, q2⟩ := (tby_eq hb9 (by decide)).mp c23
          unfold tlet zBlank
          rw [decide_eq_true q1, q2]
          rfl
        exact hk (by rw [hx9]; rfl) _ (hF.put rfl) (zUn (by omega))
  · intro hf
    exact (tlet_end hen hf).elim
