/-! NAMES -/
def zNam (v : zV) (b : Nat) : Prop := ∃ L, 1 ≤ L ∧ L ≤ 6 ∧ (∀ k, k < L → 97 ≤ v (b + k) ∧ v (b + k) ≤ 122) ∧ ∀ k, L ≤ k → k < 6 → v (b + k) = 0
def zNmS (v : zV) : Prop := (∀ i, i < v 6 → zNam v (10 + 12 * i + 6)) ∧ (∀ i, i < v 7 → zNam v (202 + 11 * i + 5)) ∧ ∀ i, i < v 8 → zNam v (268 + 23 * i + 17)
theorem vpkN_succ (B : Nat → Nat) (f k : Nat) : vpkN B f (k + 1) = vpkN B f k * 32 + (B (f + k) - 96) := rfl
theorem vname_L {v : zV} {b L : Nat} (h6 : L ≤ 6) (h : ∀ k, k < L → 97 ≤ v (b + k) ∧ v (b + k) ≤ 122) (h0 : ∀ k, L ≤ k → k < 6 → v (b + k) = 0) : vname v b = vpkN v b L := by
  have key : ∀ k, k ≤ 6 → zFor k (fun k a => if v (b + k) = 0 then a else a * 32 + (v (b + k) - 96)) 0 = vpkN v b (min k L) := by
    intro k
    induction k with
    | zero => intro _; rw [Nat.zero_min]; rfl
    | succ k ih =>
      intro hk
      rw [zFor_succ, ih (by omega)]
      by_cases q : k < L
      · have := h k q
        rw [if_neg (by omega), Nat.min_eq_left (show k ≤ L by omega), Nat.min_eq_left (show k + 1 ≤ L by omega), vpkN_succ]
      · rw [if_pos (h0 k (by omega) (by omega)), Nat.min_eq_right (show L ≤ k by omega), Nat.min_eq_right (show L ≤ k + 1 by omega)]
  have := key 6 (Nat.le_refl 6)
  rw [Nat.min_eq_right h6] at this
  exact this
theorem vpkN_inj {B B' : Nat → Nat} {f f' : Nat} : ∀ {k k' : Nat}, (∀ i, i < k → 97 ≤ B (f + i) ∧ B (f + i) ≤ 122) → (∀ i, i < k' → 97 ≤ B' (f' + i) ∧ B' (f' + i) ≤ 122) → vpkN B f k = vpkN B' f' k' → k = k' ∧ ∀ i, i < k → B (f + i) = B' (f' + i) := by
  intro k
  induction k with
  | zero =>
    intro k' h h' e
    cases k' with
    | zero => exact ⟨rfl, fun i hi => absurd hi (by omega)⟩
    | succ k' =>
      have := h' k' (by omega)
      rw [vpkN_succ] at e
      have e0 : vpkN B f 0 = 0 := rfl
      omega
  | succ k ih =>
    intro k' h h' e
    cases k' with
    | zero =>
      have := h k (by omega)
      rw [vpkN_succ] at e
      have e0 : vpkN B' f' 0 = 0 := rfl
      omega
    | succ k' =>
      rw [vpkN_succ, vpkN_succ] at e
      have h1 := h k (by omega)
      have h2 := h' k' (by omega)
      obtain ⟨e1, e2⟩ := ih (fun i hi => h i (by omega)) (fun i hi => h' i (by omega)) (show vpkN B f k = vpkN B' f' k' by omega)
      subst e1
      refine ⟨rfl, fun i hi => ?_⟩
      by_cases q : i < k
      · exact e2 i q
      · have : i = k := by omega
        subst this
        omega
/-- the token's letter k; 0 behind its end -/
def tlt (B : Nat → Nat) (f t k : Nat) : Nat := if k < t - f then B (f + k) else 0
def samB (v : zV) (b : Nat) (B : Nat → Nat) (f t : Nat) : Bool := decide (t - f ≤ 6) && !zAny 6 (fun k => !decide (v (b + k) = tlt B f t k))
theorem samB_iff {v : zV} {b : Nat} {B : Nat → Nat} {f t : Nat} : samB v b B f t = true ↔ t - f ≤ 6 ∧ ∀ k, k < 6 → v (b + k) = tlt B f t k := by
  unfold samB
  rw [Bool.and_eq_true, decide_eq_true_eq]
  refine and_congr_right (fun _ => ?_)
  constructor
  · intro h k hk
    by_cases q : v (b + k) = tlt B f t k
    · exact q
    · rw [zAny_iff (p := fun k => !decide (v (b + k) = tlt B f t k)) |>.mpr ⟨k, hk, by simp [q]⟩] at h
      cases h
  · intro h
    cases q : zAny 6 (fun k => !decide (v (b + k) = tlt B f t k))
    · rfl
    · obtain ⟨k, h1, h2⟩ := zAny_iff.mp q
      rw [decide_eq_true (h k h1)] at h2
      cases h2
theorem samB_name {v : zV} {b : Nat} {B : Nat → Nat} {f t : Nat} (hv : zNam v b) (hl : ∀ i, i < t - f → zLetter (B (f + i)) = true) : samB v b B f t = decide (vname v b = vnm B f t) := by
  obtain ⟨L, h1, h6, hL, h0⟩ := hv
  have en := vname_L h6 hL h0
  have hl2 : ∀ i, i < t - f → 97 ≤ B (f + i) ∧ B (f + i) ≤ 122 := fun i hi => zLetter_iff.mp (hl i hi)
  have e : samB v b B f t = true ↔ vname v b = vnm B f t := by
    rw [samB_iff, en]
    constructor
    · rintro ⟨h7, h8⟩
      rw [vnm_yes h7 hl]
      have hLt : L = t - f := by
        rcases Nat.lt_trichotomy L (t - f) with q | q | q
        · have e1 := h8 L (by omega)
          rw [h0 L (by omega) (by omega)] at e1
          unfold tlt at e1
          rw [if_pos q] at e1
          have := hl2 L q
          omega
        · exact q
        · have e1 := h8 (t - f) (by omega)
          unfold tlt at e1
          rw [if_neg (by omega)] at e1
          have := hL (t - f) q
          omega
      subst hLt
      unfold vpkN
      refine zFor_congr (fun i a hi => ?_)
      have e1 := h8 i (by omega)
      unfold tlt at e1
      rw [if_pos hi] at e1
      rw [e1]
    · intro e
      have hp : 0 < vpkN v b L := vpkN_pos (fun i hi => zLetter_iff.mpr (hL i hi)) h1
      have h7 : t - f ≤ 6 := by
        by_cases q : t - f ≤ 6
        · exact q
        · rw [vnm_len (by omega)] at e; omega
      rw [vnm_yes h7 hl] at e
      obtain ⟨e1, e2⟩ := vpkN_inj hL hl2 e
      refine ⟨h7, fun k hk => ?_⟩
      unfold tlt
      by_cases q : k < t - f
      · rw [if_pos q]; exact e2 k (by omega)
      · rw [if_neg q]; exact h0 k (by omega) hk
  cases q : samB v b B f t
  · rw [decide_eq_false (fun w => by rw [e.mpr w] at q; cases q)]
  · rw [decide_eq_true (e.mp q)]
/-- a byte as a number: any byte -/
def zsn (b : Nat) : Nat := (zsx b).toUInt32.toNat
theorem zsn_at (b : Nat) : nI (zsn b) = zsx b := by
  apply Int32.toBitVec_inj.mp
  show BitVec.ofNat 32 (zsx b).toBitVec.toNat = (zsx b).toBitVec
  exact BitVec.ofNat_toNat .. |>.trans (BitVec.setWidth_eq _)
theorem zsn_small {b : Nat} (h : b < 128) : zsn b = b := by
  unfold zsn
  rw [zsx_small b h]
  show (BitVec.ofNat 32 b).toNat = b
  rw [BitVec.toNat_ofNat]
  omega
/-- the draft's letters -/
def vlet (v : zV) (at_ : Nat) (B : Nat → Nat) (f t : Nat) : zV := fun j => if at_ ≤ j ∧ j < at_ + 6 then (if j - at_ < t - f then zsn (B (f + (j - at_))) else 0) else v j
theorem jX10_letter {n f t k : Nat} {B : Nat → Nat} {Q : Option Value → zM → Prop} {X : String → zM → Prop} {M : zM} (hB : zBf M 129 n B) (hn : n ≤ 1400) (h20 : M.1 118 20 = nI f) (h19 : M.1 118 19 = nI t) (hft : f ≤ t) (ht : t ≤ n) (hk : k < 2 ^ 31) (h : Q (some (.int (nI (if k < t - f then zsn (B (f + k)) else 0)))) M) : zJ yX10_letter cX10_letter 2 (some .int) rX10_letter Q X rX10_letter.cells rX10_letter.slots 0 (zEnt 2 [.ref 118, .int (nI k)]) [] M := by
  show zJ yX10_letter cX10_letter 2 (some .int) rX10_letter Q X 0 0 0 [some (.ref 118), some (.int (nI k))] [] M
  refine zj_iload1 (n := 1) rfl dX10_letter_0 ?_
  refine zj_aload0 (n := 2) rfl dX10_letter_1 ?_
  refine zj_getiN (e := t) (n := 5) rfl dX10_letter_2 zf_X10_236 rfl (by decide) (by decide) h19 ?_
  refine zj_aload0 (n := 6) rfl dX10_letter_5 ?_
  refine zj_getiN (e := f) (n := 9) rfl dX10_letter_6 zf_X10_230 rfl (by decide) (by decide) h20 ?_
  refine zj_isubN (n := 10) rfl dX10_letter_9 (by omega) ?_
  refine zj_icmpN_ge (n := 13) (tgt := 27) rfl dX10_letter_10 (by decide) (by omega) (by omega) (fun c10 => ?_) (fun c10 => ?_)
  · refine zj_iconstN_0 (n := 28) rfl dX10_letter_27 ?_
    exact zj_ireturn dX10_letter_28 rfl rfl (zQi h (by rw [if_neg (by omega)]))
  · refine zj_aload0 (n := 14) rfl dX10_letter_13 ?_
    refine zj_getr (n := 17) (q := 129) rfl dX10_letter_14 zf_X10_46 rfl (by decide) (by decide) rfl ?_
    refine zj_aload0 (n := 18) rfl dX10_letter_17 ?_
    refine zj_getiN (e := f) (n := 21) rfl dX10_letter_18 zf_X10_230 rfl (by decide) (by decide) h20 ?_
    refine zj_iload1 (n := 22) rfl dX10_letter_21 ?_
    refine zj_iaddN (n := 23) rfl dX10_letter_22 ?_
    refine zj_baloadW (x := zsx (B (f + k))) (n := 24) rfl dX10_letter_23 (by decide) (by decide) (by rw [show zLen 129 = 1400 from rfl]; omega) (hB (f + k) (by omega)).2 ?_
    refine zj_goto (tgt := 28) dX10_letter_24 (by decide) ?_
    exact zj_ireturn dX10_letter_28 rfl rfl (zQi h (by rw [if_pos (by omega), zsn_at]))
theorem z_nm75 {first wide name many i : Nat} {k : Nat} {Q : Option Value → zM → Prop} {X : String → zM → Prop} {M : zM} (hk : k < 6) (h : zJ yX10_named cX10_named 8 (some .int) rX10_named Q X 0 0 3 [some (.ref 118), some (.int (nI first)), some (.int (nI wide)), some (.int (nI name)), some (.int (nI many)), some (.int (nI (i + 1))), none, none] [] M) : zJ yX10_named cX10_named 8 (some .int) rX10_named Q X 0 0 75 [some (.ref 118), some (.int (nI first)), some (.int (nI wide)), some (.int (nI name)), some (.int (nI many)), some (.int (nI i)), none, some (.int (nI k))] [] M := by
  refine zj_iconstN_0 (n := 76) rfl dX10_named_75 ?_
  refine zj_istore6 (n := 78) rfl dX10_named_76 rfl (Nat.le_of_ble_eq_true rfl) ?_
  refine zj_iincN7 (n := 81) rfl dX10_named_78 rfl (Nat.le_of_ble_eq_true rfl) ?_
  refine zj_goto (tgt := 34) dX10_named_81 (by decide) ?_
  refine zj_iload7 (n := 36) rfl dX10_named_34 ?_
  refine zj_bipushN (v := 6) (n := 38) rfl dX10_named_36 (by decide) ?_
  refine zj_icmpN_ge (n := 41) (tgt := 84) rfl dX10_named_38 (by decide) (by omega) (by omega) (fun c38 => ?_) (fun c38 => ?_)
  · refine zj_iload6 (n := 86) rfl dX10_named_84 ?_
    refine zj_ifN_eq (n := 89) (tgt := 92) rfl dX10_named_86 (by decide) (by omega) (fun _ => ?_) (fun h => absurd h (by decide))
    refine zj_iincN5 (n := 95) rfl dX10_named_92 rfl (Nat.le_of_ble_eq_true rfl) ?_
    refine zj_goto (tgt := 3) dX10_named_95 (by decide) ?_
    refine zj_keep [true, true, true, true, true, true, false, false] ?_
    exact h
  · refine zj_iload6 (n := 43) rfl dX10_named_41 ?_
    refine zj_ifN_eq (n := 46) (tgt := 84) rfl dX10_named_43 (by decide) (by omega) (fun _ => ?_) (fun h => absurd h (by decide))
    refine zj_iload6 (n := 86) rfl dX10_named_84 ?_
    refine zj_ifN_eq (n := 89) (tgt := 92) rfl dX10_named_86 (by decide) (by omega) (fun _ => ?_) (fun h => absurd h (by decide))
    refine zj_iincN5 (n := 95) rfl dX10_named_92 rfl (Nat.le_of_ble_eq_true rfl) ?_
    refine zj_goto (tgt := 3) dX10_named_95 (by decide) ?_
    refine zj_keep [true, true, true, true, true, true, false, false] ?_
    exact h
theorem z_nm28 {first wide name many i : Nat}  {Q : Option Value → zM → Prop} {X : String → zM → Prop} {M : zM} (h : zJ yX10_named cX10_named 8 (some .int) rX10_named Q X 0 0 3 [some (.ref 118), some (.int (nI first)), some (.int (nI wide)), some (.int (nI name)), some (.int (nI many)), some (.int (nI (i + 1))), none, none] [] M) : zJ yX10_named cX10_named 8 (some .int) rX10_named Q X 0 0 28 [some (.ref 118), some (.int (nI first)), some (.int (nI wide)), some (.int (nI name)), some (.int (nI many)), some (.int (nI i)), none, none] [] M := by
  refine zj_iconstN_0 (n := 29) rfl dX10_named_28 ?_
  refine zj_istore6 (n := 31) rfl dX10_named_29 rfl (Nat.le_of_ble_eq_true rfl) ?_
  refine zj_iconstN_0 (n := 32) rfl dX10_named_31 ?_
  refine zj_istore7 (n := 34) rfl dX10_named_32 rfl (Nat.le_of_ble_eq_true rfl) ?_
  refine zj_iload7 (n := 36) rfl dX10_named_34 ?_
  refine zj_bipushN (v := 6) (n := 38) rfl dX10_named_36 (by decide) ?_
  refine zj_icmpN_ge (n := 41) (tgt := 84) rfl dX10_named_38 (by decide) (by omega) (by omega) (fun h => absurd h (by decide)) (fun _ => ?_)
  refine zj_iload6 (n := 43) rfl dX10_named_41 ?_
  refine zj_ifN_eq (n := 46) (tgt := 84) rfl dX10_named_43 (by decide) (by omega) (fun _ => ?_) (fun h => absurd h (by decide))
  refine zj_iload6 (n := 86) rfl dX10_named_84 ?_
  refine zj_ifN_eq (n := 89) (tgt := 92) rfl dX10_named_86 (by decide) (by omega) (fun _ => ?_) (fun h => absurd h (by decide))
  refine zj_iincN5 (n := 95) rfl dX10_named_92 rfl (Nat.le_of_ble_eq_true rfl) ?_
  refine zj_goto (tgt := 3) dX10_named_95 (by decide) ?_
  refine zj_keep [true, true, true, true, true, true, false, false] ?_
  exact h
theorem jX10_named {w n f t : Nat} {B : Nat → Nat} {v : zV} {first wide name many : Nat} {Q : Option Value → zM → Prop} {X : String → zM → Prop} {M : zM} (hA : zRA M w v) (hB : zBf M 129 n B) (hn : n ≤ 1400) (h20 : M.1 118 20 = nI f) (h19 : M.1 118 19 = nI t) (hft : f ≤ t) (ht : t ≤ n) (hl : ∀ i, i < t - f → zLetter (B (f + i)) = true) (hb : ∀ r, r < many → first + wide * r + name + 6 ≤ 698) (hv : ∀ r, r < many → ∀ k, k < 6 → v (first + wide * r + name + k) < 2 ^ 31) (hm : many ≤ 16) (hlen : t - f < 2 ^ 31) (hs : first < 2 ^ 20 ∧ wide < 2 ^ 10 ∧ name < 2 ^ 20) (h : Q (some (.int (zo (zfo many (fun r => samB v (first + wide * r + name) B f t))))) M) : zJ yX10_named cX10_named 8 (some .int) rX10_named Q X rX10_named.cells rX10_named.slots 0 (zEnt 8 [.ref 118, .int (nI first), .int (nI wide), .int (nI name), .int (nI many)]) [] M := by
  show zJ yX10_named cX10_named 8 (some .int) rX10_named Q X 0 0 0 [some (.ref 118), some (.int (nI first)), some (.int (nI wide)), some (.int (nI name)), some (.int (nI many)), none, none, none] [] M
  refine zj_iconstN_0 (n := 1) rfl dX10_named_0 ?_
  refine zj_istore5 (n := 3) rfl dX10_named_1 rfl (Nat.le_of_ble_eq_true rfl) ?_
  refine zFind_rule (P := fun i => zJ yX10_named cX10_named 8 (some .int) rX10_named Q X 0 0 3 [some (.ref 118), some (.int (nI first)), some (.int (nI wide)), some (.int (nI name)), some (.int (nI many)), some (.int (nI i)), none, none] [] M) (n := many) (p := fun r => samB v (first + wide * r + name) B f t) ?_ ?_
  · intro i hi hf1 hk1
    refine zj_iload5 (n := 5) rfl dX10_named_3 ?_
    refine zj_iload4 (n := 7) rfl dX10_named_5 ?_
    refine zj_icmpN_ge (n := 10) (tgt := 98) rfl dX10_named_7 (by decide) (by omega) (by omega) (fun c7 => by omega) (fun c7 => ?_)
    refine zj_aload0 (n := 11) rfl dX10_named_10 ?_
    refine zj_getiN (e := t) (n := 14) rfl dX10_named_11 zf_X10_236 rfl (by decide) (by decide) h19 ?_
    refine zj_aload0 (n := 15) rfl dX10_named_14 ?_
    refine zj_getiN (e := f) (n := 18) rfl dX10_named_15 zf_X10_230 rfl (by decide) (by decide) h20 ?_
    refine zj_isubN (n := 19) rfl dX10_named_18 (by omega) ?_
    refine zj_bipushN (v := 6) (n := 21) rfl dX10_named_19 (by decide) ?_
    refine zj_icmpN_gt (n := 24) (tgt := 28) rfl dX10_named_21 (by decide) (by omega) (by omega) (fun c21 => ?_) (fun c21 => ?_)
    · exact z_nm28 (hk1 (by
        have : samB v (first + wide * i + name) B f t = false := by unfold samB; rw [decide_eq_false (by omega)]; rfl
        exact this))
    · refine zj_iconstN_1 (n := 25) rfl dX10_named_24 ?_
      refine zj_goto (tgt := 29) dX10_named_25 (by decide) ?_
      refine zj_istore6 (n := 31) rfl dX10_named_29 rfl (Nat.le_of_ble_eq_true rfl) ?_
      refine zj_iconstN_0 (n := 32) rfl dX10_named_31 ?_
      refine zj_istore7 (n := 34) rfl dX10_named_32 rfl (Nat.le_of_ble_eq_true rfl) ?_
      refine zFind_rule (P := fun k => zJ yX10_named cX10_named 8 (some .int) rX10_named Q X 0 0 34 [some (.ref 118), some (.int (nI first)), some (.int (nI wide)), some (.int (nI name)), some (.int (nI many)), some (.int (nI i)), some (.int (nI 1)), some (.int (nI k))] [] M) (n := 6) (p := fun k => !decide (v (first + wide * i + name + k) = tlt B f t k)) ?_ ?_
      · intro k hk hf hkk
        refine zj_iload7 (n := 36) rfl dX10_named_34 ?_
        refine zj_bipushN (v := 6) (n := 38) rfl dX10_named_36 (by decide) ?_
        refine zj_icmpN_ge (n := 41) (tgt := 84) rfl dX10_named_38 (by decide) (by omega) (by omega) (fun c38 => by omega) (fun c38 => ?_)
        refine zj_iload6 (n := 43) rfl dX10_named_41 ?_
        refine zj_ifN_eq (n := 46) (tgt := 84) rfl dX10_named_43 (by decide) (by omega) (fun h => absurd h (by decide)) (fun _ => ?_)
        refine zj_aload0 (n := 47) rfl dX10_named_46 ?_
        refine zj_getr (n := 50) (q := w) rfl dX10_named_47 zf_X10_24 rfl (by decide) (by decide) hA.now ?_
        refine zj_iload1 (n := 51) rfl dX10_named_50 ?_
        refine zj_iload2 (n := 52) rfl dX10_named_51 ?_
        refine zj_iload5 (n := 54) rfl dX10_named_52 ?_
        refine zj_imulN (n := 55) rfl dX10_named_54 ?_
        refine zj_iaddN (n := 56) rfl dX10_named_55 ?_
        refine zj_iload3 (n := 57) rfl dX10_named_56 ?_
        refine zj_iaddN (n := 58) rfl dX10_named_57 ?_
        refine zj_iload7 (n := 60) rfl dX10_named_58 ?_
        refine zj_iaddN (n := 61) rfl dX10_named_60 ?_
        refine zj_ialoadN (e := v (first + wide * i + name + k)) (n := 62) rfl dX10_named_61 hA.2.1.lt hA.2.1.ty (by rw [hA.2.1.len]; have := hb i hi; omega) (hA.2.2 _ (by have := hb i hi; omega)) ?_
        refine zj_aload0 (n := 63) rfl dX10_named_62 ?_
        refine zj_iload7 (n := 65) rfl dX10_named_63 ?_
        refine zj_callV1 (n := 68) (a' := 0) (b' := 0) rfl dX10_named_65 zm_X10_330 (by decide) (by decide) rfl (Nat.le_of_ble_eq_true rfl) (Nat.le_of_ble_eq_true rfl) (Nat.le_of_ble_eq_true rfl) (Nat.le_of_ble_eq_true rfl) (jX10_letter hB hn h20 h19 hft ht (k := k) (by omega) ?_)
        have elt : (if k < t - f then zsn (B (f + k)) else 0) = tlt B f t k := by
          unfold tlt
          split
          · rename_i q; have := zLetter_iff.mp (hl k q); exact zsn_small (by omega)
          · rfl
        have hlt9 : tlt B f t k < 2 ^ 31 := by
          unfold tlt
          split
          · rename_i q; have := zLetter_iff.mp (hl k q); omega
          · omega
        have hv9 := hv i hi k hk
        refine zj_icmpN_ne (n := 71) (tgt := 75) rfl dX10_named_68 (by decide) (by first | exact hv9 | (rw [elt]; exact hlt9)) (by first | exact hv9 | (rw [elt]; exact hlt9)) (fun c68 => ?_) (fun c68 => ?_)
        · refine zj_keep [true, true, true, true, true, true, false, true] ?_
          exact z_nm75 hk (hk1 (by
            cases q : samB v (first + wide * i + name) B f t
            · rfl
            · exact absurd ((samB_iff.mp q).2 k hk) (by rw [← elt]; exact c68)))
        · refine zj_iconstN_1 (n := 72) rfl dX10_named_71 ?_
          refine zj_goto (tgt := 76) dX10_named_72 (by decide) ?_
          refine zj_istore6 (n := 78) rfl dX10_named_76 rfl (Nat.le_of_ble_eq_true rfl) ?_
          refine zj_iincN7 (n := 81) rfl dX10_named_78 rfl (Nat.le_of_ble_eq_true rfl) ?_
          refine zj_goto (tgt := 34) dX10_named_81 (by decide) ?_
          exact hkk (by rw [← elt, decide_eq_true c68]; rfl)
      · intro hf
        refine zj_iload7 (n := 36) rfl dX10_named_34 ?_
        refine zj_bipushN (v := 6) (n := 38) rfl dX10_named_36 (by decide) ?_
        refine zj_icmpN_ge (n := 41) (tgt := 84) rfl dX10_named_38 (by decide) (by omega) (by omega) (fun c38 => ?_) (fun c38 => by omega)
        refine zj_iload6 (n := 86) rfl dX10_named_84 ?_
        refine zj_ifN_eq (n := 89) (tgt := 92) rfl dX10_named_86 (by decide) (by omega) (fun h => absurd h (by decide)) (fun _ => ?_)
        refine zj_iload5 (n := 91) rfl dX10_named_89 ?_
        exact zj_ireturn dX10_named_91 rfl rfl (zQi h (by rw [zfo_some (p := fun r => samB v (first + wide * r + name) B f t) hi (samB_iff.mpr ⟨by omega, fun k hk => by have := hf k hk; simpa using this⟩) hf1]; rfl))
  · intro hf1
    refine zj_iload5 (n := 5) rfl dX10_named_3 ?_
    refine zj_iload4 (n := 7) rfl dX10_named_5 ?_
    refine zj_icmpN_ge (n := 10) (tgt := 98) rfl dX10_named_7 (by decide) (by omega) (by omega) (fun c7 => ?_) (fun c7 => by omega)
    refine zj_iconst_m1 (n := 99) rfl dX10_named_98 ?_
    exact zj_ireturn dX10_named_99 rfl rfl (zQi h (by rw [zfo_none hf1]; rfl))
