/-! THE CLASS'S PARSER, step by step -/
def zP5 : Nat → Bool := fun j => decide (2 ≤ j)
theorem sRef_no {k q : Nat} {s : zS} (h : s.1 ≠ 0) : sRef k q s = s := if_neg h
theorem sNext_no {B : Nat → Nat} {n : Nat} {s : zS} (h : s.1 ≠ 0) : sNext B n s = s := if_neg h
theorem sErr_no {B : Nat → Nat} {n k : Nat} {b : Bool} {s : zS} (h : s.1 ≠ 0) : sErr k B n b s = s := by
  unfold sErr
  split
  · exact sRef_no h
  · rfl
theorem sErr_ok {B : Nat → Nat} {n k : Nat} {b : Bool} {s : zS} (hk : 0 < k) : (sErr k B n b s).1 = 0 ↔ s.1 = 0 ∧ b = false := by
  unfold sErr sRef
  cases b
  · simp
  · by_cases h : s.1 = 0
    · simp [h]; omega
    · simp [h]
theorem sErr_eq {B : Nat → Nat} {n k : Nat} {b : Bool} {s : zS} (h : b = false) : sErr k B n b s = s := by subst h; rfl
theorem sNext_ok {B : Nat → Nat} {n : Nat} {s : zS} : (sNext B n s).1 = 0 ↔ s.1 = 0 := by
  unfold sNext
  by_cases h : s.1 = 0 <;> simp [h]
theorem sNext_e {B : Nat → Nat} {n : Nat} {s : zS} (h : s.1 = 0) : sNext B n s = (0, 0, tE B n s.2.2) := if_pos h
/-- the state's place is in the text -/
def sIn (n : Nat) (s : zS) : Prop := s.1 = 0 → s.2.2 ≤ n
theorem sIn.err {B : Nat → Nat} {n k : Nat} {b : Bool} {s : zS} (h : sIn n s) : sIn n (sErr k B n b s) := by
  unfold sErr sRef sIn
  cases b
  · exact h
  · by_cases q : s.1 = 0
    · simp [q]
    · simp [q]
theorem sIn.next {B : Nat → Nat} {n : Nat} {s : zS} (h : sIn n s) : sIn n (sNext B n s) := by
  intro q
  have q1 := sNext_ok.mp q
  rw [sNext_e q1]
  exact (tE_le (h q1)).2.1
theorem zPs.in_ {M : zM} {n : Nat} {B : Nat → Nat} {s : zS} (h : zPs M n B s) : sIn n s := fun q => by
  obtain ⟨-, -, -, -, e, h1, -, h3⟩ := h
  rw [← h3 q]; exact h1
theorem zPs.by_ {M : zM} {n : Nat} {B : Nat → Nat} {s : zS} (h : zPs M n B s) : zBy M 100 n B := h.1
theorem zPs.n {M : zM} {n : Nat} {B : Nat → Nat} {s : zS} (h : zPs M n B s) : n ≤ 1400 := h.1.2.2.1
theorem zK23 {M M1 : zM} (h : zKf (fun j => j == 2 || j == 3) M M1) : zKf zP5 M M1 := h.mono (fun j hj => by
  unfold zP5 at hj
  have := of_decide_eq_false hj
  simp only [Bool.or_eq_false_iff, beq_eq_false_iff_ne]
  omega)
theorem sNum_ok {B : Nat → Nat} {n lo hi : Nat} {s : zS} (h : (sNum B n lo hi s).1 = 0) : s.1 = 0 ∧ tK B n s.2.2 = 2 ∧ lo ≤ tN B n s.2.2 ∧ tN B n s.2.2 ≤ hi := by
  unfold sNum sNumE at h
  have h := sNext_ok.mp h
  split at h
  · rename_i q
    obtain ⟨h1, h2⟩ := (sErr_ok (by decide)).mp h
    simp only [Bool.not_eq_false', Bool.and_eq_true, decide_eq_true_eq] at h2
    exact ⟨h1, q, h2⟩
  · obtain ⟨h1, h2⟩ := (sErr_ok (by decide)).mp h
    cases h2
theorem tLet {B : Nat → Nat} {n e j : Nat} (hk : tK B n e = 1) (hj : tS B n e + j < tE B n e) : zLetter (B (tS B n e + j)) = true := by
  unfold tK sK at hk
  split at hk
  · rename_i q
    split at hk
    · rename_i q2
      unfold tE sE at hj
      rw [if_pos q, if_pos q2] at hj
      unfold lWd at hj
      have h9 := zFst_le (n - tS B n e) (fun i => !zLetter (B (tS B n e + i)))
      have := zFst_min (n := n - tS B n e) (p := fun i => !zLetter (B (tS B n e + i))) (i := j) (by omega) (by omega)
      simpa using this
    · split at hk <;> cases hk
  · cases hk
theorem tPos {B : Nat → Nat} {n e : Nat} (hk : tK B n e ≠ 0) : tS B n e < tE B n e := by
  have : tS B n e < n := by
    by_cases q : tS B n e < n
    · exact q
    · exact absurd (sK_0.mpr q) hk
  exact sE_gt this
theorem vpkN_pos {B : Nat → Nat} {f k : Nat} (h : ∀ i, i < k → zLetter (B (f + i)) = true) (hk : 0 < k) : 0 < vpkN B f k := by
  obtain ⟨k, rfl⟩ : ∃ q, k = q + 1 := ⟨k - 1, by omega⟩
  have h2 := zLetter_iff.mp (h k (by omega))
  show 0 < vpkN B f k * 32 + (B (f + k) - 96)
  omega
theorem vnm_len {B : Nat → Nat} {f t : Nat} (h : 6 < t - f) : vnm B f t = 0 := by
  unfold vnm
  rw [if_neg (by omega)]
theorem vnm_yes {B : Nat → Nat} {f t : Nat} (h : t - f ≤ 6) (hl : ∀ i, i < t - f → zLetter (B (f + i)) = true) : vnm B f t = vpkN B f (t - f) := by
  unfold vnm
  rw [if_pos ⟨h, by cases q : zAny (t - f) (fun i => !zLetter (B (f + i))); rfl; obtain ⟨j, h3, h4⟩ := zAny_iff.mp q; rw [hl j h3] at h4; cases h4⟩]
theorem vnm_lt (B : Nat → Nat) (f t : Nat) : vnm B f t < 2 ^ 30 := by
  unfold vnm
  split
  · rename_i h
    have h1 : vpkN B f (t - f) < 32 ^ (t - f) := vpkN_lt (fun i hi => by
      cases q : zLetter (B (f + i))
      · have := zAny_iff (p := fun i => !zLetter (B (f + i))) |>.mpr ⟨i, hi, by simp [q]⟩
        rw [h.2] at this; cases this
      · rfl)
    have h2 : (32 : Nat) ^ (t - f) ≤ 32 ^ 6 := Nat.pow_le_pow_right (by decide) h.1
    omega
  · omega
theorem vnm_tok {B : Nat → Nat} {n e : Nat} (hk : tK B n e = 1) : vnm B (tS B n e) (tE B n e) = 0 ↔ 6 < tE B n e - tS B n e := by
  have hp := tPos (B := B) (n := n) (e := e) (by omega)
  constructor
  · intro h
    by_cases q : 6 < tE B n e - tS B n e
    · exact q
    · rw [vnm_yes (by omega) (fun i hi => tLet hk (by omega))] at h
      have := vpkN_pos (B := B) (f := tS B n e) (k := tE B n e - tS B n e) (fun i hi => tLet hk (by omega)) (by omega)
      omega
  · exact vnm_len
def sRul (B : Nat → Nat) (n : Nat) (s : zS) : zS := sNext B n (sErr 1 B n (!(sAt B n s.2.2 5 || sAt B n s.2.2 6 || sAt B n s.2.2 7)) s)
def vRul (B : Nat → Nat) (n e : Nat) : Nat := if sAt B n e 5 then 0 else if sAt B n e 6 then 1 else 2
theorem sAt_len {B : Nat → Nat} {n e i : Nat} (h : sAt B n e i = true) : tE B n e = tS B n e + kwl i := by
  unfold sAt at h
  rw [Bool.and_eq_true] at h
  exact (wis_iff.mp h.2).1
theorem sAt_one {B : Nat → Nat} {n e i j : Nat} (h : sAt B n e i = true) (hij : kwl i ≠ kwl j) : sAt B n e j = false := by
  cases q : sAt B n e j
  · rfl
  · have h1 := sAt_len h
    have h2 := sAt_len q
    omega
def sDup (q : Nat) (b : Bool) (s : zS) : zS := if b then sRef 3 q s else s
def sBeg (B : Nat → Nat) (n i : Nat) (full dup : Bool) (s : zS) : zS := sDup (tS B n (sTake B n i (sErr 4 B n full s)).2.2) dup (sName B n (sTake B n i (sErr 4 B n full s)))
theorem sDup_no {q : Nat} {b : Bool} {s : zS} (h : s.1 ≠ 0) : sDup q b s = s := by
  unfold sDup
  split
  · exact sRef_no h
  · rfl
theorem sDup_ok {q : Nat} {b : Bool} {s : zS} : (sDup q b s).1 = 0 ↔ s.1 = 0 ∧ b = false := by
  unfold sDup sRef
  cases b
  · simp
  · by_cases h : s.1 = 0 <;> simp [h]
theorem jX5_refuse {n : Nat} {B : Nat → Nat} {s : zS} {k q : Nat} {Q : Option Value → zM → Prop} {X : String → zM → Prop} {M : zM} (hP : zPs M n B s) (hk : 0 < k ∧ k ≤ 5) (h : ∀ M', zKf (fun j => j == 2 || j == 3) M M' → zPs M' n B (sRef k q s) → Q none M') : zJ yX5_refuse cX5_refuse 3 none rX5_refuse Q X rX5_refuse.cells rX5_refuse.slots 0 (zEnt 3 [.ref 104, .int (nI k), .int (nI q)]) [] M := by
  have hn := hP.n
  have hB := hP.by_
  obtain ⟨-, hc, hc5, hpp, e, hen, hT, he⟩ := id hP
  have hts := tS_le (B := B) hen
  have hte := tE_le (B := B) hen
  have hk3 : tK B n e ≤ 3 := sK_le
  have hq9 := tQ_lt (B := B) (n := n) (e := e)
  show zJ yX5_refuse cX5_refuse 3 none rX5_refuse Q X 0 0 0 [some (.ref 104), some (.int (nI k)), some (.int (nI q))] [] M
  refine zj_aload0 (n := 1) rfl dX5_refuse_0 ?_
  refine zj_getiN (e := s.1) (n := 4) rfl dX5_refuse_1 zf_X5_25 rfl (by decide) (by decide) hc ?_
  refine zj_ifN_ne (n := 7) (tgt := 17) rfl dX5_refuse_4 (by decide) (by omega) (fun c4 => ?_) (fun c4 => ?_)
  · refine zj_return dX5_refuse_17 rfl ?_
    rw [sRef_no (by omega)] at h
    exact h M zKf.rf hP
  · refine zj_aload0 (n := 8) rfl dX5_refuse_7 ?_
    refine zj_iload1 (n := 9) rfl dX5_refuse_8 ?_
    refine zj_puti (n := 12) rfl dX5_refuse_9 zp_X5_25 rfl (by decide) (by decide) ?_
    refine zj_aload0 (n := 13) rfl dX5_refuse_12 ?_
    refine zj_iload2 (n := 14) rfl dX5_refuse_13 ?_
    refine zj_puti (n := 17) rfl dX5_refuse_14 zp_X5_228 rfl (by decide) (by decide) ?_
    refine zj_return dX5_refuse_17 rfl ?_
    unfold sRef at h
    rw [if_pos c4] at h
    exact h _ ((zKf.rf.put (j := 2) rfl).put (j := 3) rfl) ⟨hB.cg (by dsimp only; rw [zU_off (by decide), zU_off (by decide)]) (by dsimp only; rw [zU_off (by decide), zU_off (by decide)]), by dsimp only; rw [zU_nj (by decide), zU_eq], hk.2, fun _ => zUe, e, hen, hT.cg (fun j hj => by dsimp only; rw [zU_nj (by omega), zU_nj (by omega)]), fun q => absurd q (by show k ≠ 0; omega)⟩
theorem jX5_nextToken {n : Nat} {B : Nat → Nat} {s : zS} {Q : Option Value → zM → Prop} {X : String → zM → Prop} {M : zM} (hP : zPs M n B s) (h : ∀ M', zKf zP5 M M' → zPs M' n B (sNext B n s) → Q none M') : zJ yX5_nextToken cX5_nextToken 1 none rX5_nextToken Q X rX5_nextToken.cells rX5_nextToken.slots 0 (zEnt 1 [.ref 104]) [] M := by
  obtain ⟨hB, hc, hc5, hpp, e, hen, hT, he⟩ := id hP
  by_cases q : s.1 = 0
  · have e9 := he q
    subst e9
    refine jX5_nextTok0 hB (by rw [hc, q]) hT.2.2.1 (tE_le hen).2.1 (fun M' hF hT' => h M' (hF.mono (fun j hj => ?_)) ?_)
    · unfold zP5 at hj
      have := of_decide_eq_false hj
      simp only [Bool.or_eq_false_iff, beq_eq_false_iff_ne]
      omega
    · rw [sNext_e q]
      exact ⟨hF.by_ hB, by rw [hF.2.2 2 rfl, hc, q], Nat.zero_le _, fun w => absurd rfl w, _, (tE_le hen).2.1, hT', fun _ => rfl⟩
  · rw [sNext_no q] at h
    show zJ yX5_nextToken cX5_nextToken 1 none rX5_nextToken Q X 0 0 0 [some (.ref 104)] [] M
    refine zj_aload0 (n := 1) rfl dX5_nextToken_0 ?_
    refine zj_getiN (e := s.1) (n := 4) rfl dX5_nextToken_1 zf_X5_25 rfl (by decide) (by decide) hc ?_
    refine zj_ifN_eq (n := 7) (tgt := 8) rfl dX5_nextToken_4 (by decide) (by omega) (fun c => absurd c q) (fun _ => ?_)
    exact zj_return dX5_nextToken_7 rfl (h M zKf.rf hP)
theorem jX5_isAt {n : Nat} {B : Nat → Nat} {s : zS} {i : Nat} {Q : Option Value → zM → Prop} {X : String → zM → Prop} {M : zM} (hP : zPs M n B s) (hi : i < 23) (h : ∀ b : Bool, (s.1 = 0 → b = sAt B n s.2.2 i) → Q (some (.int (zb b))) M) : zJ yX5_isAt cX5_isAt 2 (some .boolean) rX5_isAt Q X rX5_isAt.cells rX5_isAt.slots 0 (zEnt 2 [.ref 104, .ref (200 + i)]) [] M := by
  have hn := hP.n
  have hB := hP.by_
  obtain ⟨-, hc, hc5, hpp, e, hen, hT, he⟩ := id hP
  have hts := tS_le (B := B) hen
  have hte := tE_le (B := B) hen
  have hk3 : tK B n e ≤ 3 := sK_le
  have hq9 := tQ_lt (B := B) (n := n) (e := e)
  show zJ yX5_isAt cX5_isAt 2 (some .boolean) rX5_isAt Q X 0 0 0 [some (.ref 104), some (.ref (200 + i))] [] M
  refine zj_aload0 (n := 1) rfl dX5_isAt_0 ?_
  refine zj_getiN (e := tK B n e) (n := 4) rfl dX5_isAt_1 zf_X5_38 rfl (by decide) (by decide) hT.1 ?_
  refine zj_iconstN_1 (n := 5) rfl dX5_isAt_4 ?_
  refine zj_icmpN_ne (n := 8) (tgt := 34) rfl dX5_isAt_5 (by decide) (by omega) (by omega) (fun c5 => ?_) (fun c5 => ?_)
  · refine zj_iconstN_0 (n := 35) rfl dX5_isAt_34 ?_
    refine zj_ireturn dX5_isAt_35 rfl rfl ?_
    have hb : sAt B n e i = false := by unfold sAt; rw [beq_false_of_ne c5]; rfl
    exact h false (fun q => by rw [← he q, hb])
  · refine zj_aload0 (n := 9) rfl dX5_isAt_8 ?_
    refine zj_getr (n := 12) (q := 100) rfl dX5_isAt_9 zf_X5_18 rfl (by decide) (by decide) rfl ?_
    refine zj_aload1 (n := 13) rfl dX5_isAt_12 ?_
    refine zj_gettext (i := i) (n := 16) rfl dX5_isAt_13 hi ⟨_, zs_X5_217⟩ ?_
    refine zj_aload0 (n := 17) rfl dX5_isAt_16 ?_
    refine zj_getiN (e := tS B n e) (n := 20) rfl dX5_isAt_17 zf_X5_66 rfl (by decide) (by decide) hT.2.1 ?_
    refine zj_aload0 (n := 21) rfl dX5_isAt_20 ?_
    refine zj_getiN (e := tE B n e) (n := 24) rfl dX5_isAt_21 zf_X5_29 rfl (by decide) (by decide) hT.2.2.1 ?_
    refine zj_callV3 (n := 27) (a' := 0) (b' := 0) rfl dX5_isAt_24 zm_X5_220 (by decide) (by decide) rfl (Nat.le_of_ble_eq_true rfl) (Nat.le_of_ble_eq_true rfl) (Nat.le_of_ble_eq_true rfl) (Nat.le_of_ble_eq_true rfl) (jX1_spells (i := i) hB (by omega) (by omega) (by omega) ?_)
    refine zj_ifB_eq (n := 30) (tgt := 34) rfl dX5_isAt_27 (by decide) (fun c27 => ?_) (fun c27 => ?_)
    · refine zj_iconstN_0 (n := 35) rfl dX5_isAt_34 ?_
      refine zj_ireturn dX5_isAt_35 rfl rfl ?_
      have hb : sAt B n e i = false := by unfold sAt; rw [c27, Bool.and_false]
      exact h false (fun q => by rw [← he q, hb])
    · refine zj_iconstN_1 (n := 31) rfl dX5_isAt_30 ?_
      refine zj_goto (tgt := 35) dX5_isAt_31 (by decide) ?_
      refine zj_ireturn dX5_isAt_35 rfl rfl ?_
      have hb : sAt B n e i = true := by unfold sAt; rw [c5, c27]; rfl
      exact h true (fun q => by rw [← he q, hb])
theorem jX5_isKeyword {n : Nat} {B : Nat → Nat} {s : zS}  {Q : Option Value → zM → Prop} {X : String → zM → Prop} {M : zM} (hP : zPs M n B s) (h : ∀ b : Bool, (s.1 = 0 → b = sKw B n s.2.2) → Q (some (.int (zb b))) M) : zJ yX5_isKeyword cX5_isKeyword 2 (some .boolean) rX5_isKeyword Q X rX5_isKeyword.cells rX5_isKeyword.slots 0 (zEnt 2 [.ref 104]) [] M := by
  have hn := hP.n
  have hB := hP.by_
  obtain ⟨-, hc, hc5, hpp, e, hen, hT, he⟩ := id hP
  have hts := tS_le (B := B) hen
  have hte := tE_le (B := B) hen
  have hk3 : tK B n e ≤ 3 := sK_le
  have hq9 := tQ_lt (B := B) (n := n) (e := e)
  show zJ yX5_isKeyword cX5_isKeyword 2 (some .boolean) rX5_isKeyword Q X 0 0 0 [some (.ref 104), none] [] M
  refine zj_iconstN_0 (n := 1) rfl dX5_isKeyword_0 ?_
  refine zj_istore1 (n := 2) rfl dX5_isKeyword_1 rfl (Nat.le_of_ble_eq_true rfl) ?_
  refine zFind_rule (P := fun i => zJ yX5_isKeyword cX5_isKeyword 2 (some .boolean) rX5_isKeyword Q X 0 0 2 [some (.ref 104), some (.int (nI i))] [] M) (n := 23) (p := fun i => wis B (tS B n e) (tE B n e) i) ?_ ?_
  · intro i hi hf hk
    refine zj_iload1 (n := 3) rfl dX5_isKeyword_2 ?_
    refine zj_getkws (n := 6) rfl dX5_isKeyword_3 ⟨_, zs_X5_224⟩ ?_
    refine zj_lenkws (n := 7) rfl dX5_isKeyword_6 ?_
    refine zj_icmpN_ge (n := 10) (tgt := 44) rfl dX5_isKeyword_7 (by decide) (by omega) (by omega) (fun c7 => by omega) (fun c7 => ?_)
    refine zj_aload0 (n := 11) rfl dX5_isKeyword_10 ?_
    refine zj_getr (n := 14) (q := 100) rfl dX5_isKeyword_11 zf_X5_18 rfl (by decide) (by decide) rfl ?_
    refine zj_getkws (n := 17) rfl dX5_isKeyword_14 ⟨_, zs_X5_224⟩ ?_
    refine zj_iload1 (n := 18) rfl dX5_isKeyword_17 ?_
    refine zj_loadkws (i := i) (n := 19) rfl dX5_isKeyword_18 (by omega) ?_
    refine zj_gettext (i := i) (n := 22) rfl dX5_isKeyword_19 (by omega) ⟨_, zs_X5_217⟩ ?_
    refine zj_aload0 (n := 23) rfl dX5_isKeyword_22 ?_
    refine zj_getiN (e := tS B n e) (n := 26) rfl dX5_isKeyword_23 zf_X5_66 rfl (by decide) (by decide) hT.2.1 ?_
    refine zj_aload0 (n := 27) rfl dX5_isKeyword_26 ?_
    refine zj_getiN (e := tE B n e) (n := 30) rfl dX5_isKeyword_27 zf_X5_29 rfl (by decide) (by decide) hT.2.2.1 ?_
    refine zj_callV3 (n := 33) (a' := 0) (b' := 0) rfl dX5_isKeyword_30 zm_X5_220 (by decide) (by decide) rfl (Nat.le_of_ble_eq_true rfl) (Nat.le_of_ble_eq_true rfl) (Nat.le_of_ble_eq_true rfl) (Nat.le_of_ble_eq_true rfl) (jX1_spells (i := i) hB (by omega) (by omega) (by omega) ?_)
    refine zj_ifB_eq (n := 36) (tgt := 38) rfl dX5_isKeyword_33 (by decide) (fun c33 => ?_) (fun c33 => ?_)
    · refine zj_iincN1 (n := 41) rfl dX5_isKeyword_38 rfl (Nat.le_of_ble_eq_true rfl) ?_
      refine zj_goto (tgt := 2) dX5_isKeyword_41 (by decide) ?_
      exact hk c33
    · refine zj_iconstN_1 (n := 37) rfl dX5_isKeyword_36 ?_
      refine zj_ireturn dX5_isKeyword_37 rfl rfl ?_
      exact h true (fun q => by rw [← he q]; unfold sKw; exact (zAny_iff.mpr ⟨i, hi, c33⟩).symm)
  · intro hf
    refine zj_iload1 (n := 3) rfl dX5_isKeyword_2 ?_
    refine zj_getkws (n := 6) rfl dX5_isKeyword_3 ⟨_, zs_X5_224⟩ ?_
    refine zj_lenkws (n := 7) rfl dX5_isKeyword_6 ?_
    refine zj_icmpN_ge (n := 10) (tgt := 44) rfl dX5_isKeyword_7 (by decide) (by omega) (by omega) (fun c7 => ?_) (fun c7 => by omega)
    refine zj_iconstN_0 (n := 45) rfl dX5_isKeyword_44 ?_
    refine zj_ireturn dX5_isKeyword_45 rfl rfl ?_
    exact h false (fun q => by rw [← he q]; unfold sKw; cases w : zAny 23 (fun i => wis B (tS B n e) (tE B n e) i); rfl; obtain ⟨j, h3, h4⟩ := zAny_iff.mp w; rw [hf j h3] at h4; cases h4)
theorem jX5_take {n : Nat} {B : Nat → Nat} {s : zS} {i : Nat} {Q : Option Value → zM → Prop} {X : String → zM → Prop} {M : zM} (hP : zPs M n B s) (hi : i < 23) (h : ∀ M', zKf zP5 M M' → zPs M' n B (sTake B n i s) → Q none M') : zJ yX5_take cX5_take 2 none rX5_take Q X rX5_take.cells rX5_take.slots 0 (zEnt 2 [.ref 104, .ref (200 + i)]) [] M := by
  have hn := hP.n
  have hB := hP.by_
  obtain ⟨-, hc, hc5, hpp, e, hen, hT, he⟩ := id hP
  have hts := tS_le (B := B) hen
  have hte := tE_le (B := B) hen
  have hk3 : tK B n e ≤ 3 := sK_le
  have hq9 := tQ_lt (B := B) (n := n) (e := e)
  show zJ yX5_take cX5_take 2 none rX5_take Q X 0 0 0 [some (.ref 104), some (.ref (200 + i))] [] M
  refine zj_aload0 (n := 1) rfl dX5_take_0 ?_
  refine zj_aload1 (n := 2) rfl dX5_take_1 ?_
  refine zj_callV1 (n := 5) (a' := 0) (b' := 0) rfl dX5_take_2 zm_X5_47 (by decide) (by decide) rfl (Nat.le_of_ble_eq_true rfl) (Nat.le_of_ble_eq_true rfl) (Nat.le_of_ble_eq_true rfl) (Nat.le_of_ble_eq_true rfl) (jX5_isAt hP hi ?_)
  intro b hb
  refine zj_ifB_ne (n := 8) (tgt := 17) rfl dX5_take_5 (by decide) (fun c5 => ?_) (fun c5 => ?_)
  · refine zj_aload0 (n := 18) rfl dX5_take_17 ?_
    refine zj_callV0 (n := 21) (a' := 0) (b' := 0) rfl dX5_take_18 zm_X5_32 (by decide) (by decide) rfl (Nat.le_of_ble_eq_true rfl) (Nat.le_of_ble_eq_true rfl) (Nat.le_of_ble_eq_true rfl) (Nat.le_of_ble_eq_true rfl) (jX5_nextToken (s := sErr 1 B n (!sAt B n s.2.2 i) s) (by by_cases q : s.1 = 0; rw [sErr_eq (by rw [← hb q, c5]; rfl)]; exact hP; rw [sErr_no q]; exact hP) ?_)
    intro M3 hF3 hP3
    exact zj_return dX5_take_21 rfl (h M3 hF3 hP3)
  · refine zj_aload0 (n := 9) rfl dX5_take_8 ?_
    refine zj_iconstN_1 (n := 10) rfl dX5_take_9 ?_
    refine zj_aload0 (n := 11) rfl dX5_take_10 ?_
    refine zj_getiN (e := tS B n e) (n := 14) rfl dX5_take_11 zf_X5_66 rfl (by decide) (by decide) hT.2.1 ?_
    refine zj_callV2 (n := 17) (a' := 0) (b' := 0) rfl dX5_take_14 zm_X5_69 (by decide) (by decide) rfl (Nat.le_of_ble_eq_true rfl) (Nat.le_of_ble_eq_true rfl) (Nat.le_of_ble_eq_true rfl) (Nat.le_of_ble_eq_true rfl) (jX5_refuse hP (by decide) ?_)
    intro M1 hF1 hP1
    have hP2 : zPs M1 n B (sErr 1 B n (!sAt B n s.2.2 i) s) := by
      by_cases q : s.1 = 0
      · have e9 := he q
        subst e9
        rw [show sErr 1 B n (!sAt B n s.2.2 i) s = sRef 1 (tS B n s.2.2) s from if_pos (by rw [← hb q, c5]; rfl)]
        exact hP1
      · rw [sErr_no q]; rw [sRef_no q] at hP1; exact hP1
    refine zj_aload0 (n := 18) rfl dX5_take_17 ?_
    refine zj_callV0 (n := 21) (a' := 0) (b' := 0) rfl dX5_take_18 zm_X5_32 (by decide) (by decide) rfl (Nat.le_of_ble_eq_true rfl) (Nat.le_of_ble_eq_true rfl) (Nat.le_of_ble_eq_true rfl) (Nat.le_of_ble_eq_true rfl) (jX5_nextToken (s := sErr 1 B n (!sAt B n s.2.2 i) s) hP2 ?_)
    intro M3 hF3 hP3
    exact zj_return dX5_take_21 rfl (h M3 ((zK23 hF1).tr hF3) hP3)
theorem jX5_takeEnd {n : Nat} {B : Nat → Nat} {s : zS}  {Q : Option Value → zM → Prop} {X : String → zM → Prop} {M : zM} (hP : zPs M n B s) (h : ∀ M', zKf zP5 M M' → zPs M' n B (sEnd B n s) → Q none M') : zJ yX5_takeEnd cX5_takeEnd 1 none rX5_takeEnd Q X rX5_takeEnd.cells rX5_takeEnd.slots 0 (zEnt 1 [.ref 104]) [] M := by
  have hn := hP.n
  have hB := hP.by_
  obtain ⟨-, hc, hc5, hpp, e, hen, hT, he⟩ := id hP
  have hts := tS_le (B := B) hen
  have hte := tE_le (B := B) hen
  have hk3 : tK B n e ≤ 3 := sK_le
  have hq9 := tQ_lt (B := B) (n := n) (e := e)
  show zJ yX5_takeEnd cX5_takeEnd 1 none rX5_takeEnd Q X 0 0 0 [some (.ref 104)] [] M
  refine zj_aload0 (n := 1) rfl dX5_takeEnd_0 ?_
  refine zj_getiN (e := tK B n e) (n := 4) rfl dX5_takeEnd_1 zf_X5_38 rfl (by decide) (by decide) hT.1 ?_
  refine zj_iconstN_3 (n := 5) rfl dX5_takeEnd_4 ?_
  refine zj_icmpN_ne (n := 8) (tgt := 24) rfl dX5_takeEnd_5 (by decide) (by omega) (by omega) (fun c5 => ?_) (fun c5 => ?_)
  · have hbad : sSemi B n e = false := by unfold sSemi; rw [beq_false_of_ne c5]; rfl
    refine zj_aload0 (n := 25) rfl dX5_takeEnd_24 ?_
    refine zj_iconstN_1 (n := 26) rfl dX5_takeEnd_25 ?_
    refine zj_aload0 (n := 27) rfl dX5_takeEnd_26 ?_
    refine zj_getiN (e := tS B n e) (n := 30) rfl dX5_takeEnd_27 zf_X5_66 rfl (by decide) (by decide) hT.2.1 ?_
    refine zj_callV2 (n := 33) (a' := 0) (b' := 0) rfl dX5_takeEnd_30 zm_X5_69 (by decide) (by decide) rfl (Nat.le_of_ble_eq_true rfl) (Nat.le_of_ble_eq_true rfl) (Nat.le_of_ble_eq_true rfl) (Nat.le_of_ble_eq_true rfl) (jX5_refuse hP (by decide) ?_)
    intro M1 hF1 hP1
    have hP2 : zPs M1 n B (sErr 1 B n (!sSemi B n s.2.2) s) := by
      by_cases q : s.1 = 0
      · have e9 := he q
        subst e9
        rw [show sErr 1 B n (!sSemi B n s.2.2) s = sRef 1 (tS B n s.2.2) s from if_pos (by rw [hbad]; rfl)]
        exact hP1
      · rw [sErr_no q]; rw [sRef_no q] at hP1; exact hP1
    refine zj_aload0 (n := 34) rfl dX5_takeEnd_33 ?_
    refine zj_callV0 (n := 37) (a' := 0) (b' := 0) rfl dX5_takeEnd_34 zm_X5_32 (by decide) (by decide) rfl (Nat.le_of_ble_eq_true rfl) (Nat.le_of_ble_eq_true rfl) (Nat.le_of_ble_eq_true rfl) (Nat.le_of_ble_eq_true rfl) (jX5_nextToken (s := sErr 1 B n (!sSemi B n s.2.2) s) hP2 ?_)
    intro M3 hF3 hP3
    exact zj_return dX5_takeEnd_37 rfl (h M3 ((zK23 hF1).tr hF3) hP3)
  · refine zj_aload0 (n := 9) rfl dX5_takeEnd_8 ?_
    refine zj_getr (n := 12) (q := 100) rfl dX5_takeEnd_9 zf_X5_18 rfl (by decide) (by decide) rfl ?_
    refine zj_aload0 (n := 13) rfl dX5_takeEnd_12 ?_
    refine zj_getiN (e := tS B n e) (n := 16) rfl dX5_takeEnd_13 zf_X5_66 rfl (by decide) (by decide) hT.2.1 ?_
    refine zj_callV1 (n := 19) (a' := 0) (b' := 0) rfl dX5_takeEnd_16 zm_X5_214 (by decide) (by decide) rfl (Nat.le_of_ble_eq_true rfl) (Nat.le_of_ble_eq_true rfl) (Nat.le_of_ble_eq_true rfl) (Nat.le_of_ble_eq_true rfl) (jX1_at hB (by omega) ?_)
    rw [if_pos (show tS B n e < n from by by_cases w : tS B n e < n; exact w; rw [show tK B n e = 0 from sK_0.mpr w] at c5; cases c5)]
    have hb9 := hB.b (show tS B n e < n from by by_cases w : tS B n e < n; exact w; rw [show tK B n e = 0 from sK_0.mpr w] at c5; cases c5)
    refine zj_bipushN (v := 59) (n := 21) rfl dX5_takeEnd_19 (by decide) ?_
    refine zj_icmpN_eq (n := 24) (tgt := 33) rfl dX5_takeEnd_21 (by decide) (by omega) (by omega) (fun c21 => ?_) (fun c21 => ?_)
    · refine zj_aload0 (n := 34) rfl dX5_takeEnd_33 ?_
      refine zj_callV0 (n := 37) (a' := 0) (b' := 0) rfl dX5_takeEnd_34 zm_X5_32 (by decide) (by decide) rfl (Nat.le_of_ble_eq_true rfl) (Nat.le_of_ble_eq_true rfl) (Nat.le_of_ble_eq_true rfl) (Nat.le_of_ble_eq_true rfl) (jX5_nextToken (s := sErr 1 B n (!sSemi B n s.2.2) s) (by by_cases q : s.1 = 0; rw [sErr_eq (by rw [← he q]; unfold sSemi; rw [c5, c21]; rfl)]; exact hP; rw [sErr_no q]; exact hP) ?_)
      intro M3 hF3 hP3
      exact zj_return dX5_takeEnd_37 rfl (h M3 hF3 hP3)
    · have hbad : sSemi B n e = false := by unfold sSemi; rw [beq_false_of_ne c21, Bool.and_false]
      refine zj_aload0 (n := 25) rfl dX5_takeEnd_24 ?_
      refine zj_iconstN_1 (n := 26) rfl dX5_takeEnd_25 ?_
      refine zj_aload0 (n := 27) rfl dX5_takeEnd_26 ?_
      refine zj_getiN (e := tS B n e) (n := 30) rfl dX5_takeEnd_27 zf_X5_66 rfl (by decide) (by decide) hT.2.1 ?_
      refine zj_callV2 (n := 33) (a' := 0) (b' := 0) rfl dX5_takeEnd_30 zm_X5_69 (by decide) (by decide) rfl (Nat.le_of_ble_eq_true rfl) (Nat.le_of_ble_eq_true rfl) (Nat.le_of_ble_eq_true rfl) (Nat.le_of_ble_eq_true rfl) (jX5_refuse hP (by decide) ?_)
      intro M1 hF1 hP1
      have hP2 : zPs M1 n B (sErr 1 B n (!sSemi B n s.2.2) s) := by
        by_cases q : s.1 = 0
        · have e9 := he q
          subst e9
          rw [show sErr 1 B n (!sSemi B n s.2.2) s = sRef 1 (tS B n s.2.2) s from if_pos (by rw [hbad]; rfl)]
          exact hP1
        · rw [sErr_no q]; rw [sRef_no q] at hP1; exact hP1
      refine zj_aload0 (n := 34) rfl dX5_takeEnd_33 ?_
      refine zj_callV0 (n := 37) (a' := 0) (b' := 0) rfl dX5_takeEnd_34 zm_X5_32 (by decide) (by decide) rfl (Nat.le_of_ble_eq_true rfl) (Nat.le_of_ble_eq_true rfl) (Nat.le_of_ble_eq_true rfl) (Nat.le_of_ble_eq_true rfl) (jX5_nextToken (s := sErr 1 B n (!sSemi B n s.2.2) s) hP2 ?_)
      intro M3 hF3 hP3
      exact zj_return dX5_takeEnd_37 rfl (h M3 ((zK23 hF1).tr hF3) hP3)
theorem jX5_takeNumber {n : Nat} {B : Nat → Nat} {s : zS} {lo hi : Nat} {Q : Option Value → zM → Prop} {X : String → zM → Prop} {M : zM} (hP : zPs M n B s) (hlo : lo < 100000000) (hhi : hi < 100000000) (h : ∀ M' (x : Nat), x ≤ 100000000 → zKf zP5 M M' → zPs M' n B (sNum B n lo hi s) → ((sNum B n lo hi s).1 = 0 → x = tN B n s.2.2) → Q (some (.int (nI x))) M') : zJ yX5_takeNumber cX5_takeNumber 4 (some .int) rX5_takeNumber Q X rX5_takeNumber.cells rX5_takeNumber.slots 0 (zEnt 4 [.ref 104, .int (nI lo), .int (nI hi)]) [] M := by
  have hn := hP.n
  have hB := hP.by_
  obtain ⟨-, hc, hc5, hpp, e, hen, hT, he⟩ := id hP
  have hts := tS_le (B := B) hen
  have hte := tE_le (B := B) hen
  have hk3 : tK B n e ≤ 3 := sK_le
  have hq9 := tQ_lt (B := B) (n := n) (e := e)
  have htq : tK B n e = 2 → tQ B n e = min 100000000 (tN B n e) := fun q => if_pos q
  show zJ yX5_takeNumber cX5_takeNumber 4 (some .int) rX5_takeNumber Q X 0 0 0 [some (.ref 104), some (.int (nI lo)), some (.int (nI hi)), none] [] M
  refine zj_aload0 (n := 1) rfl dX5_takeNumber_0 ?_
  refine zj_getiN (e := tK B n e) (n := 4) rfl dX5_takeNumber_1 zf_X5_38 rfl (by decide) (by decide) hT.1 ?_
  refine zj_iconstN_2 (n := 5) rfl dX5_takeNumber_4 ?_
  refine zj_icmpN_eq (n := 8) (tgt := 20) rfl dX5_takeNumber_5 (by decide) (by omega) (by omega) (fun c5 => ?_) (fun c5 => ?_)
  · have hq := htq c5
    refine zj_aload0 (n := 21) rfl dX5_takeNumber_20 ?_
    refine zj_getiN (e := tQ B n e) (n := 24) rfl dX5_takeNumber_21 zf_X5_211 rfl (by decide) (by decide) hT.2.2.2 ?_
    refine zj_iload1 (n := 25) rfl dX5_takeNumber_24 ?_
    refine zj_icmpN_lt (n := 28) (tgt := 36) rfl dX5_takeNumber_25 (by decide) (by omega) (by omega) (fun c25 => ?_) (fun c25 => ?_)
    · refine zj_aload0 (n := 37) rfl dX5_takeNumber_36 ?_
      refine zj_iconstN_2 (n := 38) rfl dX5_takeNumber_37 ?_
      refine zj_aload0 (n := 39) rfl dX5_takeNumber_38 ?_
      refine zj_getiN (e := tS B n e) (n := 42) rfl dX5_takeNumber_39 zf_X5_66 rfl (by decide) (by decide) hT.2.1 ?_
      refine zj_callV2 (n := 45) (a' := 0) (b' := 0) rfl dX5_takeNumber_42 zm_X5_69 (by decide) (by decide) rfl (Nat.le_of_ble_eq_true rfl) (Nat.le_of_ble_eq_true rfl) (Nat.le_of_ble_eq_true rfl) (Nat.le_of_ble_eq_true rfl) (jX5_refuse hP (by decide) ?_)
      intro M1 hF1 hP1
      have hP2 : zPs M1 n B (sNumE B n lo hi s) := by
        by_cases q : s.1 = 0
        · have e9 := he q
          subst e9
          unfold sNumE
          rw [if_pos c5, show sErr 2 B n (!(decide (lo ≤ tN B n s.2.2) && decide (tN B n s.2.2 ≤ hi))) s = sRef 2 (tS B n s.2.2) s from if_pos (by rw [decide_eq_false (show ¬ lo ≤ tN B n s.2.2 by omega), Bool.false_and, Bool.not_false])]
          exact hP1
        · unfold sNumE
          rw [sErr_no q, sErr_no q]
          rw [sRef_no q] at hP1
          split <;> exact hP1
      refine zj_aload0 (n := 46) rfl dX5_takeNumber_45 ?_
      refine zj_getiN (e := tQ B n e) (n := 49) rfl dX5_takeNumber_46 zf_X5_211 rfl (by decide) (by decide) ((hF1.2.2 7 rfl).trans hT.2.2.2) ?_
      refine zj_istore3 (n := 50) rfl dX5_takeNumber_49 rfl (Nat.le_of_ble_eq_true rfl) ?_
      refine zj_aload0 (n := 51) rfl dX5_takeNumber_50 ?_
      refine zj_callV0 (n := 54) (a' := 0) (b' := 0) rfl dX5_takeNumber_51 zm_X5_32 (by decide) (by decide) rfl (Nat.le_of_ble_eq_true rfl) (Nat.le_of_ble_eq_true rfl) (Nat.le_of_ble_eq_true rfl) (Nat.le_of_ble_eq_true rfl) (jX5_nextToken (s := sNumE B n lo hi s) hP2 ?_)
      intro M3 hF3 hP3
      refine zj_iload3 (n := 55) rfl dX5_takeNumber_54 ?_
      refine zj_ireturn dX5_takeNumber_55 rfl rfl ?_
      refine h M3 _ hq9 ((zK23 hF1).tr hF3) hP3 (fun q => ?_)
      obtain ⟨q1, q2, q3, q4⟩ := sNum_ok q
      have e9 := he q1
      subst e9
      rw [htq q2]
      omega
    · refine zj_aload0 (n := 29) rfl dX5_takeNumber_28 ?_
      refine zj_getiN (e := tQ B n e) (n := 32) rfl dX5_takeNumber_29 zf_X5_211 rfl (by decide) (by decide) hT.2.2.2 ?_
      refine zj_iload2 (n := 33) rfl dX5_takeNumber_32 ?_
      refine zj_icmpN_le (n := 36) (tgt := 45) rfl dX5_takeNumber_33 (by decide) (by omega) (by omega) (fun c33 => ?_) (fun c33 => ?_)
      · refine zj_aload0 (n := 46) rfl dX5_takeNumber_45 ?_
        refine zj_getiN (e := tQ B n e) (n := 49) rfl dX5_takeNumber_46 zf_X5_211 rfl (by decide) (by decide) hT.2.2.2 ?_
        refine zj_istore3 (n := 50) rfl dX5_takeNumber_49 rfl (Nat.le_of_ble_eq_true rfl) ?_
        refine zj_aload0 (n := 51) rfl dX5_takeNumber_50 ?_
        refine zj_callV0 (n := 54) (a' := 0) (b' := 0) rfl dX5_takeNumber_51 zm_X5_32 (by decide) (by decide) rfl (Nat.le_of_ble_eq_true rfl) (Nat.le_of_ble_eq_true rfl) (Nat.le_of_ble_eq_true rfl) (Nat.le_of_ble_eq_true rfl) (jX5_nextToken (s := sNumE B n lo hi s) (by
  by_cases q : s.1 = 0
  · have e9 := he q
    subst e9
    unfold sNumE
    rw [if_pos c5, sErr_eq (by rw [decide_eq_true (show lo ≤ tN B n s.2.2 by omega), decide_eq_true (show tN B n s.2.2 ≤ hi by omega)]; rfl)]
    exact hP
  · unfold sNumE
    rw [sErr_no q, sErr_no q]
    split <;> exact hP) ?_)
        intro M3 hF3 hP3
        refine zj_iload3 (n := 55) rfl dX5_takeNumber_54 ?_
        refine zj_ireturn dX5_takeNumber_55 rfl rfl ?_
        refine h M3 _ hq9 hF3 hP3 (fun q => ?_)
        obtain ⟨q1, q2, q3, q4⟩ := sNum_ok q
        have e9 := he q1
        subst e9
        rw [htq q2]
        omega
      · refine zj_aload0 (n := 37) rfl dX5_takeNumber_36 ?_
        refine zj_iconstN_2 (n := 38) rfl dX5_takeNumber_37 ?_
        refine zj_aload0 (n := 39) rfl dX5_takeNumber_38 ?_
        refine zj_getiN (e := tS B n e) (n := 42) rfl dX5_takeNumber_39 zf_X5_66 rfl (by decide) (by decide) hT.2.1 ?_
        refine zj_callV2 (n := 45) (a' := 0) (b' := 0) rfl dX5_takeNumber_42 zm_X5_69 (by decide) (by decide) rfl (Nat.le_of_ble_eq_true rfl) (Nat.le_of_ble_eq_true rfl) (Nat.le_of_ble_eq_true rfl) (Nat.le_of_ble_eq_true rfl) (jX5_refuse hP (by decide) ?_)
        intro M1 hF1 hP1
        have hP2 : zPs M1 n B (sNumE B n lo hi s) := by
          by_cases q : s.1 = 0
          · have e9 := he q
            subst e9
            unfold sNumE
            rw [if_pos c5, show sErr 2 B n (!(decide (lo ≤ tN B n s.2.2) && decide (tN B n s.2.2 ≤ hi))) s = sRef 2 (tS B n s.2.2) s from if_pos (by rw [decide_eq_false (show ¬ tN B n s.2.2 ≤ hi by omega), Bool.and_false, Bool.not_false])]
            exact hP1
          · unfold sNumE
            rw [sErr_no q, sErr_no q]
            rw [sRef_no q] at hP1
            split <;> exact hP1
        refine zj_aload0 (n := 46) rfl dX5_takeNumber_45 ?_
        refine zj_getiN (e := tQ B n e) (n := 49) rfl dX5_takeNumber_46 zf_X5_211 rfl (by decide) (by decide) ((hF1.2.2 7 rfl).trans hT.2.2.2) ?_
        refine zj_istore3 (n := 50) rfl dX5_takeNumber_49 rfl (Nat.le_of_ble_eq_true rfl) ?_
        refine zj_aload0 (n := 51) rfl dX5_takeNumber_50 ?_
        refine zj_callV0 (n := 54) (a' := 0) (b' := 0) rfl dX5_takeNumber_51 zm_X5_32 (by decide) (by decide) rfl (Nat.le_of_ble_eq_true rfl) (Nat.le_of_ble_eq_true rfl) (Nat.le_of_ble_eq_true rfl) (Nat.le_of_ble_eq_true rfl) (jX5_nextToken (s := sNumE B n lo hi s) hP2 ?_)
        intro M3 hF3 hP3
        refine zj_iload3 (n := 55) rfl dX5_takeNumber_54 ?_
        refine zj_ireturn dX5_takeNumber_55 rfl rfl ?_
        refine h M3 _ hq9 ((zK23 hF1).tr hF3) hP3 (fun q => ?_)
        obtain ⟨q1, q2, q3, q4⟩ := sNum_ok q
        have e9 := he q1
        subst e9
        rw [htq q2]
        omega
  · refine zj_aload0 (n := 9) rfl dX5_takeNumber_8 ?_
    refine zj_iconstN_1 (n := 10) rfl dX5_takeNumber_9 ?_
    refine zj_aload0 (n := 11) rfl dX5_takeNumber_10 ?_
    refine zj_getiN (e := tS B n e) (n := 14) rfl dX5_takeNumber_11 zf_X5_66 rfl (by decide) (by decide) hT.2.1 ?_
    refine zj_callV2 (n := 17) (a' := 0) (b' := 0) rfl dX5_takeNumber_14 zm_X5_69 (by decide) (by decide) rfl (Nat.le_of_ble_eq_true rfl) (Nat.le_of_ble_eq_true rfl) (Nat.le_of_ble_eq_true rfl) (Nat.le_of_ble_eq_true rfl) (jX5_refuse hP (by decide) ?_)
    intro M1 hF1 hP1
    have hP2 : zPs M1 n B (sNumE B n lo hi s) := by
      by_cases q : s.1 = 0
      · have e9 := he q
        subst e9
        unfold sNumE
        rw [if_neg c5, show sErr 1 B n true s = sRef 1 (tS B n s.2.2) s from rfl]
        exact hP1
      · unfold sNumE
        rw [sErr_no q, sErr_no q]
        rw [sRef_no q] at hP1
        split <;> exact hP1
    refine zj_goto (tgt := 45) dX5_takeNumber_17 (by decide) ?_
    refine zj_aload0 (n := 46) rfl dX5_takeNumber_45 ?_
    refine zj_getiN (e := tQ B n e) (n := 49) rfl dX5_takeNumber_46 zf_X5_211 rfl (by decide) (by decide) ((hF1.2.2 7 rfl).trans hT.2.2.2) ?_
    refine zj_istore3 (n := 50) rfl dX5_takeNumber_49 rfl (Nat.le_of_ble_eq_true rfl) ?_
    refine zj_aload0 (n := 51) rfl dX5_takeNumber_50 ?_
    refine zj_callV0 (n := 54) (a' := 0) (b' := 0) rfl dX5_takeNumber_51 zm_X5_32 (by decide) (by decide) rfl (Nat.le_of_ble_eq_true rfl) (Nat.le_of_ble_eq_true rfl) (Nat.le_of_ble_eq_true rfl) (Nat.le_of_ble_eq_true rfl) (jX5_nextToken (s := sNumE B n lo hi s) hP2 ?_)
    intro M3 hF3 hP3
    refine zj_iload3 (n := 55) rfl dX5_takeNumber_54 ?_
    refine zj_ireturn dX5_takeNumber_55 rfl rfl ?_
    refine h M3 _ hq9 ((zK23 hF1).tr hF3) hP3 (fun q => ?_)
    obtain ⟨q1, q2, q3, q4⟩ := sNum_ok q
    have e9 := he q1
    subst e9
    rw [htq q2]
    omega
theorem jX5_takeName {n : Nat} {B : Nat → Nat} {s : zS}  {Q : Option Value → zM → Prop} {X : String → zM → Prop} {M : zM} (hP : zPs M n B s) (h : ∀ M' (x : Nat), x < 2 ^ 30 → zKf zP5 M M' → zPs M' n B (sName B n s) → ((sName B n s).1 = 0 → x = vnm B (tS B n s.2.2) (tE B n s.2.2)) → Q (some (.int (nI x))) M') : zJ yX5_takeName cX5_takeName 2 (some .int) rX5_takeName Q X rX5_takeName.cells rX5_takeName.slots 0 (zEnt 2 [.ref 104]) [] M := by
  have hn := hP.n
  have hB := hP.by_
  obtain ⟨-, hc, hc5, hpp, e, hen, hT, he⟩ := id hP
  have hts := tS_le (B := B) hen
  have hte := tE_le (B := B) hen
  have hk3 : tK B n e ≤ 3 := sK_le
  have hq9 := tQ_lt (B := B) (n := n) (e := e)
  have hv := vnm_lt B (tS B n e) (tE B n e)
  show zJ yX5_takeName cX5_takeName 2 (some .int) rX5_takeName Q X 0 0 0 [some (.ref 104), none] [] M
  refine zj_aload0 (n := 1) rfl dX5_takeName_0 ?_
  refine zj_getiN (e := tK B n e) (n := 4) rfl dX5_takeName_1 zf_X5_38 rfl (by decide) (by decide) hT.1 ?_
  refine zj_iconstN_1 (n := 5) rfl dX5_takeName_4 ?_
  refine zj_icmpN_ne (n := 8) (tgt := 26) rfl dX5_takeName_5 (by decide) (by omega) (by omega) (fun c5 => ?_) (fun c5 => ?_)
  · refine zj_iconstN_0 (n := 27) rfl dX5_takeName_26 ?_
    refine zj_istore1 (n := 28) rfl dX5_takeName_27 rfl (Nat.le_of_ble_eq_true rfl) ?_
    refine zj_iload1 (n := 29) rfl dX5_takeName_28 ?_
    refine zj_ifN_eq (n := 32) (tgt := 39) rfl dX5_takeName_29 (by decide) (by omega) (fun _ => ?_) (fun h => absurd h (by decide))
    have hbad : s.1 = 0 → sBadN B n e = true := fun _ => by unfold sBadN; rw [beq_false_of_ne c5]; rfl
    refine zj_aload0 (n := 40) rfl dX5_takeName_39 ?_
    refine zj_iconstN_1 (n := 41) rfl dX5_takeName_40 ?_
    refine zj_aload0 (n := 42) rfl dX5_takeName_41 ?_
    refine zj_getiN (e := tS B n e) (n := 45) rfl dX5_takeName_42 zf_X5_66 rfl (by decide) (by decide) hT.2.1 ?_
    refine zj_callV2 (n := 48) (a' := 0) (b' := 0) rfl dX5_takeName_45 zm_X5_69 (by decide) (by decide) rfl (Nat.le_of_ble_eq_true rfl) (Nat.le_of_ble_eq_true rfl) (Nat.le_of_ble_eq_true rfl) (Nat.le_of_ble_eq_true rfl) (jX5_refuse hP (by decide) ?_)
    intro M1 hF1 hP1
    have hP2 : zPs M1 n B (sErr 1 B n (sBadN B n s.2.2) s) := by
      by_cases q : s.1 = 0
      · have e9 := he q
        subst e9
        rw [show sErr 1 B n (sBadN B n s.2.2) s = sRef 1 (tS B n s.2.2) s from if_pos (hbad q)]
        exact hP1
      · rw [sErr_no q]; rw [sRef_no q] at hP1; exact hP1
    skip
    refine zj_aload0 (n := 49) rfl dX5_takeName_48 ?_
    refine zj_callV0 (n := 52) (a' := 0) (b' := 0) rfl dX5_takeName_49 zm_X5_32 (by decide) (by decide) rfl (Nat.le_of_ble_eq_true rfl) (Nat.le_of_ble_eq_true rfl) (Nat.le_of_ble_eq_true rfl) (Nat.le_of_ble_eq_true rfl) (jX5_nextToken (s := sErr 1 B n (sBadN B n s.2.2) s) hP2 ?_)
    intro M3 hF3 hP3
    refine zj_iload1 (n := 53) rfl dX5_takeName_52 ?_
    refine zj_ireturn dX5_takeName_53 rfl rfl ?_
    refine h M3 _ (by omega) ((zK23 hF1).tr hF3) hP3 (fun q => ?_)
    have q1 := (sErr_ok (by decide)).mp (sNext_ok.mp q)
    have e9 := he q1.1
    subst e9
    rw [hbad q1.1] at q1; cases q1.2
  · refine zj_aload0 (n := 9) rfl dX5_takeName_8 ?_
    refine zj_getr (n := 12) (q := 100) rfl dX5_takeName_9 zf_X5_18 rfl (by decide) (by decide) rfl ?_
    refine zj_aload0 (n := 13) rfl dX5_takeName_12 ?_
    refine zj_getiN (e := tS B n e) (n := 16) rfl dX5_takeName_13 zf_X5_66 rfl (by decide) (by decide) hT.2.1 ?_
    refine zj_aload0 (n := 17) rfl dX5_takeName_16 ?_
    refine zj_getiN (e := tE B n e) (n := 20) rfl dX5_takeName_17 zf_X5_29 rfl (by decide) (by decide) hT.2.2.1 ?_
    refine zj_callV2 (n := 23) (a' := 0) (b' := 0) rfl dX5_takeName_20 zm_X5_203 (by decide) (by decide) rfl (Nat.le_of_ble_eq_true rfl) (Nat.le_of_ble_eq_true rfl) (Nat.le_of_ble_eq_true rfl) (Nat.le_of_ble_eq_true rfl) (jX1_nameBetween hB (by omega) (by omega) ?_)
    refine zj_goto (tgt := 27) dX5_takeName_23 (by decide) ?_
    refine zj_istore1 (n := 28) rfl dX5_takeName_27 rfl (Nat.le_of_ble_eq_true rfl) ?_
    refine zj_iload1 (n := 29) rfl dX5_takeName_28 ?_
    refine zj_ifN_eq (n := 32) (tgt := 39) rfl dX5_takeName_29 (by decide) (by omega) (fun c29 => ?_) (fun c29 => ?_)
    · have hbad : s.1 = 0 → sBadN B n e = true := fun _ => by unfold sBadN; rw [decide_eq_true (show 6 < tE B n e - tS B n e from (vnm_tok c5).mp (by omega)), Bool.or_true]; rfl
      refine zj_aload0 (n := 40) rfl dX5_takeName_39 ?_
      refine zj_iconstN_1 (n := 41) rfl dX5_takeName_40 ?_
      refine zj_aload0 (n := 42) rfl dX5_takeName_41 ?_
      refine zj_getiN (e := tS B n e) (n := 45) rfl dX5_takeName_42 zf_X5_66 rfl (by decide) (by decide) hT.2.1 ?_
      refine zj_callV2 (n := 48) (a' := 0) (b' := 0) rfl dX5_takeName_45 zm_X5_69 (by decide) (by decide) rfl (Nat.le_of_ble_eq_true rfl) (Nat.le_of_ble_eq_true rfl) (Nat.le_of_ble_eq_true rfl) (Nat.le_of_ble_eq_true rfl) (jX5_refuse hP (by decide) ?_)
      intro M1 hF1 hP1
      have hP2 : zPs M1 n B (sErr 1 B n (sBadN B n s.2.2) s) := by
        by_cases q : s.1 = 0
        · have e9 := he q
          subst e9
          rw [show sErr 1 B n (sBadN B n s.2.2) s = sRef 1 (tS B n s.2.2) s from if_pos (hbad q)]
          exact hP1
        · rw [sErr_no q]; rw [sRef_no q] at hP1; exact hP1
      skip
      refine zj_aload0 (n := 49) rfl dX5_takeName_48 ?_
      refine zj_callV0 (n := 52) (a' := 0) (b' := 0) rfl dX5_takeName_49 zm_X5_32 (by decide) (by decide) rfl (Nat.le_of_ble_eq_true rfl) (Nat.le_of_ble_eq_true rfl) (Nat.le_of_ble_eq_true rfl) (Nat.le_of_ble_eq_true rfl) (jX5_nextToken (s := sErr 1 B n (sBadN B n s.2.2) s) hP2 ?_)
      intro M3 hF3 hP3
      refine zj_iload1 (n := 53) rfl dX5_takeName_52 ?_
      refine zj_ireturn dX5_takeName_53 rfl rfl ?_
      refine h M3 _ (by omega) ((zK23 hF1).tr hF3) hP3 (fun q => ?_)
      have q1 := (sErr_ok (by decide)).mp (sNext_ok.mp q)
      have e9 := he q1.1
      subst e9
      rfl
    · refine zj_aload0 (n := 33) rfl dX5_takeName_32 ?_
      refine zj_callV0 (n := 36) (a' := 0) (b' := 0) rfl dX5_takeName_33 zm_X5_208 (by decide) (by decide) rfl (Nat.le_of_ble_eq_true rfl) (Nat.le_of_ble_eq_true rfl) (Nat.le_of_ble_eq_true rfl) (Nat.le_of_ble_eq_true rfl) (jX5_isKeyword hP ?_)
      intro b hb
      refine zj_ifB_eq (n := 39) (tgt := 48) rfl dX5_takeName_36 (by decide) (fun c36 => ?_) (fun c36 => ?_)
      · have hgood : s.1 = 0 → sBadN B n s.2.2 = false := fun q => by
          have e9 := he q
          subst e9
          unfold sBadN
          rw [c5, ← hb q, c36, decide_eq_false (fun w => by have := (vnm_tok c5).mpr w; omega)]
          rfl
        refine zj_aload0 (n := 49) rfl dX5_takeName_48 ?_
        refine zj_callV0 (n := 52) (a' := 0) (b' := 0) rfl dX5_takeName_49 zm_X5_32 (by decide) (by decide) rfl (Nat.le_of_ble_eq_true rfl) (Nat.le_of_ble_eq_true rfl) (Nat.le_of_ble_eq_true rfl) (Nat.le_of_ble_eq_true rfl) (jX5_nextToken (s := sErr 1 B n (sBadN B n s.2.2) s) (by
  by_cases q : s.1 = 0
  · rw [sErr_eq (hgood q)]; exact hP
  · rw [sErr_no q]; exact hP) ?_)
        intro M3 hF3 hP3
        refine zj_iload1 (n := 53) rfl dX5_takeName_52 ?_
        refine zj_ireturn dX5_takeName_53 rfl rfl ?_
        refine h M3 _ (by omega) hF3 hP3 (fun q => ?_)
        have q1 := (sErr_ok (by decide)).mp (sNext_ok.mp q)
        have e9 := he q1.1
        subst e9
        rfl
      · have hbad : s.1 = 0 → sBadN B n e = true := fun q => by unfold sBadN; rw [he q, ← hb q, c36, Bool.or_true]
        refine zj_aload0 (n := 40) rfl dX5_takeName_39 ?_
        refine zj_iconstN_1 (n := 41) rfl dX5_takeName_40 ?_
        refine zj_aload0 (n := 42) rfl dX5_takeName_41 ?_
        refine zj_getiN (e := tS B n e) (n := 45) rfl dX5_takeName_42 zf_X5_66 rfl (by decide) (by decide) hT.2.1 ?_
        refine zj_callV2 (n := 48) (a' := 0) (b' := 0) rfl dX5_takeName_45 zm_X5_69 (by decide) (by decide) rfl (Nat.le_of_ble_eq_true rfl) (Nat.le_of_ble_eq_true rfl) (Nat.le_of_ble_eq_true rfl) (Nat.le_of_ble_eq_true rfl) (jX5_refuse hP (by decide) ?_)
        intro M1 hF1 hP1
        have hP2 : zPs M1 n B (sErr 1 B n (sBadN B n s.2.2) s) := by
          by_cases q : s.1 = 0
          · have e9 := he q
            subst e9
            rw [show sErr 1 B n (sBadN B n s.2.2) s = sRef 1 (tS B n s.2.2) s from if_pos (hbad q)]
            exact hP1
          · rw [sErr_no q]; rw [sRef_no q] at hP1; exact hP1
        skip
        refine zj_aload0 (n := 49) rfl dX5_takeName_48 ?_
        refine zj_callV0 (n := 52) (a' := 0) (b' := 0) rfl dX5_takeName_49 zm_X5_32 (by decide) (by decide) rfl (Nat.le_of_ble_eq_true rfl) (Nat.le_of_ble_eq_true rfl) (Nat.le_of_ble_eq_true rfl) (Nat.le_of_ble_eq_true rfl) (jX5_nextToken (s := sErr 1 B n (sBadN B n s.2.2) s) hP2 ?_)
        intro M3 hF3 hP3
        refine zj_iload1 (n := 53) rfl dX5_takeName_52 ?_
        refine zj_ireturn dX5_takeName_53 rfl rfl ?_
        refine h M3 _ (by omega) ((zK23 hF1).tr hF3) hP3 (fun q => ?_)
        have q1 := (sErr_ok (by decide)).mp (sNext_ok.mp q)
        have e9 := he q1.1
        subst e9
        rfl
theorem jX5_takeRule {n : Nat} {B : Nat → Nat} {s : zS}  {Q : Option Value → zM → Prop} {X : String → zM → Prop} {M : zM} (hP : zPs M n B s) (h : ∀ M' (x : Nat), zKf zP5 M M' → zPs M' n B (sRul B n s) → ((sRul B n s).1 = 0 → x = vRul B n s.2.2) → Q (some (.int (nI x))) M') : zJ yX5_takeRule cX5_takeRule 1 (some .int) rX5_takeRule Q X rX5_takeRule.cells rX5_takeRule.slots 0 (zEnt 1 [.ref 104]) [] M := by
  have hn := hP.n
  have hB := hP.by_
  obtain ⟨-, hc, hc5, hpp, e, hen, hT, he⟩ := id hP
  have hts := tS_le (B := B) hen
  have hte := tE_le (B := B) hen
  have hk3 : tK B n e ≤ 3 := sK_le
  have hq9 := tQ_lt (B := B) (n := n) (e := e)
  show zJ yX5_takeRule cX5_takeRule 1 (some .int) rX5_takeRule Q X 0 0 0 [some (.ref 104)] [] M
  refine zj_aload0 (n := 1) rfl dX5_takeRule_0 ?_
  refine zj_getkw (i := 6) (n := 4) rfl dX5_takeRule_1 (by decide) rfl zs_X5_116 ?_
  refine zj_callV1 (n := 7) (a' := 0) (b' := 0) rfl dX5_takeRule_4 zm_X5_47 (by decide) (by decide) rfl (Nat.le_of_ble_eq_true rfl) (Nat.le_of_ble_eq_true rfl) (Nat.le_of_ble_eq_true rfl) (Nat.le_of_ble_eq_true rfl) (jX5_isAt hP (by decide) ?_)
  intro b1 hb1
  refine zj_ifB_eq (n := 10) (tgt := 19) rfl dX5_takeRule_7 (by decide) (fun c7 => ?_) (fun c7 => ?_)
  · refine zj_aload0 (n := 20) rfl dX5_takeRule_19 ?_
    refine zj_getkw (i := 7) (n := 23) rfl dX5_takeRule_20 (by decide) rfl zs_X5_119 ?_
    refine zj_callV1 (n := 26) (a' := 0) (b' := 0) rfl dX5_takeRule_23 zm_X5_47 (by decide) (by decide) rfl (Nat.le_of_ble_eq_true rfl) (Nat.le_of_ble_eq_true rfl) (Nat.le_of_ble_eq_true rfl) (Nat.le_of_ble_eq_true rfl) (jX5_isAt hP (by decide) ?_)
    intro b2 hb2
    refine zj_ifB_eq (n := 29) (tgt := 38) rfl dX5_takeRule_26 (by decide) (fun c26 => ?_) (fun c26 => ?_)
    · refine zj_aload0 (n := 39) rfl dX5_takeRule_38 ?_
      refine zj_getkw (i := 5) (n := 42) rfl dX5_takeRule_39 (by decide) rfl zs_X5_122 ?_
      refine zj_callV1 (n := 45) (a' := 0) (b' := 0) rfl dX5_takeRule_42 zm_X5_76 (by decide) (by decide) rfl (Nat.le_of_ble_eq_true rfl) (Nat.le_of_ble_eq_true rfl) (Nat.le_of_ble_eq_true rfl) (Nat.le_of_ble_eq_true rfl) (jX5_take hP (by decide) ?_)
      intro M3 hF3 hP3
      refine zj_iconstN_0 (n := 46) rfl dX5_takeRule_45 ?_
      refine zj_ireturn dX5_takeRule_46 rfl rfl ?_
      refine h M3 0 hF3 ?_ (fun q => ?_)
      · by_cases q : s.1 = 0
        · have a6 : sAt B n s.2.2 6 = false := by rw [← hb1 q, c7]
          have a7 : sAt B n s.2.2 7 = false := by rw [← hb2 q, c26]
          unfold sRul
          rw [a6, a7, Bool.or_false, Bool.or_false]
          exact hP3
        · rw [show sRul B n s = sTake B n 5 s from by unfold sRul sTake; rw [sErr_no q, sErr_no q]]; exact hP3
      · have q1 := (sErr_ok (by decide)).mp (sNext_ok.mp q)
        have a6 : sAt B n s.2.2 6 = false := by rw [← hb1 q1.1, c7]
        have a7 : sAt B n s.2.2 7 = false := by rw [← hb2 q1.1, c26]
        have q2 := q1.2
        rw [a6, a7] at q2
        have a5 : sAt B n s.2.2 5 = true := by simpa using q2
        unfold vRul
        rw [if_pos a5]
    · refine zj_aload0 (n := 30) rfl dX5_takeRule_29 ?_
      refine zj_getkw (i := 7) (n := 33) rfl dX5_takeRule_30 (by decide) rfl zs_X5_119 ?_
      refine zj_callV1 (n := 36) (a' := 0) (b' := 0) rfl dX5_takeRule_33 zm_X5_76 (by decide) (by decide) rfl (Nat.le_of_ble_eq_true rfl) (Nat.le_of_ble_eq_true rfl) (Nat.le_of_ble_eq_true rfl) (Nat.le_of_ble_eq_true rfl) (jX5_take hP (by decide) ?_)
      intro M3 hF3 hP3
      refine zj_iconstN_2 (n := 37) rfl dX5_takeRule_36 ?_
      refine zj_ireturn dX5_takeRule_37 rfl rfl ?_
      refine h M3 2 hF3 ?_ (fun q => ?_)
      · by_cases q : s.1 = 0
        · have ai : sAt B n s.2.2 7 = true := by rw [← hb2 q, c26]
          rw [show sRul B n s = sTake B n 7 s from by unfold sRul sTake; rw [sErr_eq (by rw [ai]; simp), sErr_eq (by rw [ai]; rfl)]]
          exact hP3
        · rw [show sRul B n s = sTake B n 7 s from by unfold sRul sTake; rw [sErr_no q, sErr_no q]]; exact hP3
      · have q1 := (sErr_ok (by decide)).mp (sNext_ok.mp q)
        have ai : sAt B n s.2.2 7 = true := by rw [← hb2 q1.1, c26]
        unfold vRul
        rw [sAt_one (j := 5) ai (by decide), sAt_one (j := 6) ai (by decide)]
        rfl
  · refine zj_aload0 (n := 11) rfl dX5_takeRule_10 ?_
    refine zj_getkw (i := 6) (n := 14) rfl dX5_takeRule_11 (by decide) rfl zs_X5_116 ?_
    refine zj_callV1 (n := 17) (a' := 0) (b' := 0) rfl dX5_takeRule_14 zm_X5_76 (by decide) (by decide) rfl (Nat.le_of_ble_eq_true rfl) (Nat.le_of_ble_eq_true rfl) (Nat.le_of_ble_eq_true rfl) (Nat.le_of_ble_eq_true rfl) (jX5_take hP (by decide) ?_)
    intro M3 hF3 hP3
    refine zj_iconstN_1 (n := 18) rfl dX5_takeRule_17 ?_
    refine zj_ireturn dX5_takeRule_18 rfl rfl ?_
    refine h M3 1 hF3 ?_ (fun q => ?_)
    · by_cases q : s.1 = 0
      · have ai : sAt B n s.2.2 6 = true := by rw [← hb1 q, c7]
        rw [show sRul B n s = sTake B n 6 s from by unfold sRul sTake; rw [sErr_eq (by rw [ai]; simp), sErr_eq (by rw [ai]; rfl)]]
        exact hP3
      · rw [show sRul B n s = sTake B n 6 s from by unfold sRul sTake; rw [sErr_no q, sErr_no q]]; exact hP3
    · have q1 := (sErr_ok (by decide)).mp (sNext_ok.mp q)
      have ai : sAt B n s.2.2 6 = true := by rw [← hb1 q1.1, c7]
      unfold vRul
      rw [sAt_one (j := 5) ai (by decide), ai]
      rfl
theorem jX7_isFullN {k c cap m : Nat} {Q : Option Value → zM → Prop} {X : String → zM → Prop} {M : zM} (hT : zTN M k c cap m) (hb : (cap + 1) * c < 2 ^ 31) (h : Q (some (.int (zb (decide (m = cap))))) M) : zJ yX7_isFull cX7_isFull 1 (some .boolean) rX7_isFull Q X rX7_isFull.cells rX7_isFull.slots 0 (zEnt 1 [.ref k]) [] M := jX7_isFull hT.1 (zQi h (by
  obtain ⟨-, h0, hL, h2, hm, hc, h6⟩ := hT
  rw [h2, h0, hL, nI_1, pk_mul]
  have hle : (m + 1) * c ≤ (cap + 1) * c := Nat.mul_le_mul_right c (by omega)
  have e : (nI ((m + 1) * c) ≤ Int32.ofNat (c * cap)) ↔ m + 1 ≤ cap := (nI_leI (a := (m + 1) * c) (b := c * cap) (by omega) (by omega)).trans (by rw [Nat.mul_comm]; exact Nat.mul_le_mul_left_iff hc)
  by_cases q : m = cap
  · rw [decide_eq_true q, if_pos (fun w => by have := e.mp w; omega)]
    rfl
  · rw [decide_eq_false q, if_neg (fun w => w (e.mpr (by omega)))]
    rfl))
theorem jX5_takeBeginning {n : Nat} {B : Nat → Nat} {s : zS} {i k c cap m : Nat} {Q : Option Value → zM → Prop} {X : String → zM → Prop} {M : zM} (hP : zPs M n B s) (hi : i < 23) (hT9 : zTN M k c cap m) (hcap : (cap + 1) * c < 2 ^ 31) (hk9 : k ≠ 104) (hk8 : k + 1 ≠ 104) (h : ∀ M' (x : Nat) (dup : Bool), x < 2 ^ 30 → zKf zP5 M M' → zPs M' n B (sBeg B n i (decide (m = cap)) dup s) → ((sName B n (sTake B n i (sErr 4 B n (decide (m = cap)) s))).1 = 0 → x = vnm B (tS B n (sTake B n i (sErr 4 B n (decide (m = cap)) s)).2.2) (tE B n (sTake B n i (sErr 4 B n (decide (m = cap)) s)).2.2)) → dup = (zfo m (fun r => decide (M.1 (k + 1) (r * c + (c - 1)) = nI x))).isSome → Q (some (.int (nI x))) M') : zJ yX5_takeBeginning cX5_takeBeginning 5 (some .int) rX5_takeBeginning Q X rX5_takeBeginning.cells rX5_takeBeginning.slots 0 (zEnt 5 [.ref 104, .ref (200 + i), .ref k]) [] M := by
  have hn := hP.n
  have hB := hP.by_
  obtain ⟨-, hc, hc5, hpp, e, hen, hT, he⟩ := id hP
  have hts := tS_le (B := B) hen
  have hte := tE_le (B := B) hen
  have hk3 : tK B n e ≤ 3 := sK_le
  have hq9 := tQ_lt (B := B) (n := n) (e := e)
  show zJ yX5_takeBeginning cX5_takeBeginning 5 (some .int) rX5_takeBeginning Q X 0 0 0 [some (.ref 104), some (.ref (200 + i)), some (.ref k), none, none] [] M
  refine zj_aload2 (n := 1) rfl dX5_takeBeginning_0 ?_
  refine zj_callV0 (n := 4) (a' := 0) (b' := 0) rfl dX5_takeBeginning_1 zm_X5_199 (by decide) hT9.1.1 (by rw [hT9.1.2.1]; rfl) (Nat.le_of_ble_eq_true rfl) (Nat.le_of_ble_eq_true rfl) (Nat.le_of_ble_eq_true rfl) (Nat.le_of_ble_eq_true rfl) (jX7_isFullN hT9 hcap ?_)
  refine zj_ifB_eq (n := 7) (tgt := 16) rfl dX5_takeBeginning_4 (by decide) (fun c4 => ?_) (fun c4 => ?_)
  · refine zj_gen (P := fun M1 => zKf zP5 M M1 ∧ zPs M1 n B (sErr 4 B n (decide (m = cap)) s)) ⟨zKf.rf, by rw [c4]; exact hP⟩ ?_
    intro M1 h1
    obtain ⟨hG1, hP2⟩ := h1
    refine zj_aload0 (n := 17) rfl dX5_takeBeginning_16 ?_
    refine zj_aload1 (n := 18) rfl dX5_takeBeginning_17 ?_
    refine zj_callV1 (n := 21) (a' := 0) (b' := 0) rfl dX5_takeBeginning_18 zm_X5_76 (by decide) (by decide) rfl (Nat.le_of_ble_eq_true rfl) (Nat.le_of_ble_eq_true rfl) (Nat.le_of_ble_eq_true rfl) (Nat.le_of_ble_eq_true rfl) (jX5_take (s := sErr 4 B n (decide (m = cap)) s) hP2 hi ?_)
    intro M4 hF4 hP4
    obtain ⟨-, -, -, -, e4, hen4, hT4, he4⟩ := id hP4
    have hts4 := tS_le (B := B) hen4
    refine zj_aload0 (n := 22) rfl dX5_takeBeginning_21 ?_
    refine zj_getiN (e := tS B n e4) (n := 25) rfl dX5_takeBeginning_22 zf_X5_66 rfl (by decide) (by decide) hT4.2.1 ?_
    refine zj_istore3 (n := 26) rfl dX5_takeBeginning_25 rfl (Nat.le_of_ble_eq_true rfl) ?_
    refine zj_aload0 (n := 27) rfl dX5_takeBeginning_26 ?_
    refine zj_callV0 (n := 30) (a' := 0) (b' := 0) rfl dX5_takeBeginning_27 zm_X5_174 (by decide) (by decide) rfl (Nat.le_of_ble_eq_true rfl) (Nat.le_of_ble_eq_true rfl) (Nat.le_of_ble_eq_true rfl) (Nat.le_of_ble_eq_true rfl) (jX5_takeName hP4 ?_)
    intro M5 x hx hF5 hP5 hx5
    have hT10 : zTN M5 k c cap m := ((hT9.cg (hG1.1 k hk9)).cg (hF4.1 k hk9)).cg (hF5.1 k hk9)
    have hrow : M5.1 (k + 1) = M.1 (k + 1) := ((hF5.1 _ hk8).trans (hF4.1 _ hk8)).trans (hG1.1 _ hk8)
    refine zj_istore4 (n := 32) rfl dX5_takeBeginning_30 rfl (Nat.le_of_ble_eq_true rfl) ?_
    refine zj_aload2 (n := 33) rfl dX5_takeBeginning_32 ?_
    refine zj_iload4 (n := 35) rfl dX5_takeBeginning_33 ?_
    refine zj_callV1 (n := 38) (a' := 0) (b' := 0) rfl dX5_takeBeginning_35 zm_X5_177 (by decide) hT9.1.1 (by rw [hT9.1.2.1]; rfl) (Nat.le_of_ble_eq_true rfl) (Nat.le_of_ble_eq_true rfl) (Nat.le_of_ble_eq_true rfl) (Nat.le_of_ble_eq_true rfl) (jX7_named (x := nI x) hT10 ?_)
    refine zj_iconst_m1 (n := 39) rfl dX5_takeBeginning_38 ?_
    refine zj_icmpO_eq (n := 42) (tgt := 48) rfl dX5_takeBeginning_39 (by decide) (fun m9 hm9 => by have := zfo_lt hm9; have := hT9.2.2.2.2.1; have := hT9.2.2.2.2.2.1; have := hT9.2.2.2.2.2.2; have : cap ≤ c * cap := Nat.le_mul_of_pos_left cap (by omega); omega) (fun c39 => ?_) (fun m39 c39 => ?_)
    · refine zj_iload4 (n := 50) rfl dX5_takeBeginning_48 ?_
      refine zj_ireturn dX5_takeBeginning_50 rfl rfl ?_
      refine h M5 x false hx (hG1.tr (hF4.tr hF5)) hP5 hx5 ?_
      rw [← hrow, c39]
      rfl
    · refine zj_aload0 (n := 43) rfl dX5_takeBeginning_42 ?_
      refine zj_iconstN_3 (n := 44) rfl dX5_takeBeginning_43 ?_
      refine zj_iload3 (n := 45) rfl dX5_takeBeginning_44 ?_
      refine zj_callV2 (n := 48) (a' := 0) (b' := 0) rfl dX5_takeBeginning_45 zm_X5_69 (by decide) (by decide) rfl (Nat.le_of_ble_eq_true rfl) (Nat.le_of_ble_eq_true rfl) (Nat.le_of_ble_eq_true rfl) (Nat.le_of_ble_eq_true rfl) (jX5_refuse hP5 (by decide) ?_)
      intro M6 hF6 hP6
      refine zj_iload4 (n := 50) rfl dX5_takeBeginning_48 ?_
      refine zj_ireturn dX5_takeBeginning_50 rfl rfl ?_
      refine h M6 x true hx (hG1.tr (hF4.tr (hF5.tr (zK23 hF6)))) ?_ hx5 ?_
      · show zPs M6 n B (sRef 3 (tS B n (sTake B n i (sErr 4 B n (decide (m = cap)) s)).2.2) (sName B n (sTake B n i (sErr 4 B n (decide (m = cap)) s))))
        by_cases w : (sTake B n i (sErr 4 B n (decide (m = cap)) s)).1 = 0
        · rw [← he4 w]; exact hP6
        · have w2 : (sName B n (sTake B n i (sErr 4 B n (decide (m = cap)) s))).1 ≠ 0 := fun q => w ((sErr_ok (by decide)).mp (sNext_ok.mp q)).1
          rw [sRef_no w2] at hP6 ⊢
          exact hP6
      · rw [← hrow, c39]
        rfl
  · refine zj_aload0 (n := 8) rfl dX5_takeBeginning_7 ?_
    refine zj_iconstN_4 (n := 9) rfl dX5_takeBeginning_8 ?_
    refine zj_aload0 (n := 10) rfl dX5_takeBeginning_9 ?_
    refine zj_getiN (e := tS B n e) (n := 13) rfl dX5_takeBeginning_10 zf_X5_66 rfl (by decide) (by decide) hT.2.1 ?_
    refine zj_callV2 (n := 16) (a' := 0) (b' := 0) rfl dX5_takeBeginning_13 zm_X5_69 (by decide) (by decide) rfl (Nat.le_of_ble_eq_true rfl) (Nat.le_of_ble_eq_true rfl) (Nat.le_of_ble_eq_true rfl) (Nat.le_of_ble_eq_true rfl) (jX5_refuse hP (by decide) ?_)
    intro M1 hF1 hP1
    have hP2 : zPs M1 n B (sErr 4 B n (decide (m = cap)) s) := by
      rw [c4]
      by_cases q : s.1 = 0
      · have e9 := he q
        subst e9
        exact hP1
      · rw [sErr_no q]; rw [sRef_no q] at hP1; exact hP1
    have hG1 : zKf zP5 M M1 := zK23 hF1
    skip
    refine zj_aload0 (n := 17) rfl dX5_takeBeginning_16 ?_
    refine zj_aload1 (n := 18) rfl dX5_takeBeginning_17 ?_
    refine zj_callV1 (n := 21) (a' := 0) (b' := 0) rfl dX5_takeBeginning_18 zm_X5_76 (by decide) (by decide) rfl (Nat.le_of_ble_eq_true rfl) (Nat.le_of_ble_eq_true rfl) (Nat.le_of_ble_eq_true rfl) (Nat.le_of_ble_eq_true rfl) (jX5_take (s := sErr 4 B n (decide (m = cap)) s) hP2 hi ?_)
    intro M4 hF4 hP4
    obtain ⟨-, -, -, -, e4, hen4, hT4, he4⟩ := id hP4
    have hts4 := tS_le (B := B) hen4
    refine zj_aload0 (n := 22) rfl dX5_takeBeginning_21 ?_
    refine zj_getiN (e := tS B n e4) (n := 25) rfl dX5_takeBeginning_22 zf_X5_66 rfl (by decide) (by decide) hT4.2.1 ?_
    refine zj_istore3 (n := 26) rfl dX5_takeBeginning_25 rfl (Nat.le_of_ble_eq_true rfl) ?_
    refine zj_aload0 (n := 27) rfl dX5_takeBeginning_26 ?_
    refine zj_callV0 (n := 30) (a' := 0) (b' := 0) rfl dX5_takeBeginning_27 zm_X5_174 (by decide) (by decide) rfl (Nat.le_of_ble_eq_true rfl) (Nat.le_of_ble_eq_true rfl) (Nat.le_of_ble_eq_true rfl) (Nat.le_of_ble_eq_true rfl) (jX5_takeName hP4 ?_)
    intro M5 x hx hF5 hP5 hx5
    have hT10 : zTN M5 k c cap m := ((hT9.cg (hG1.1 k hk9)).cg (hF4.1 k hk9)).cg (hF5.1 k hk9)
    have hrow : M5.1 (k + 1) = M.1 (k + 1) := ((hF5.1 _ hk8).trans (hF4.1 _ hk8)).trans (hG1.1 _ hk8)
    refine zj_istore4 (n := 32) rfl dX5_takeBeginning_30 rfl (Nat.le_of_ble_eq_true rfl) ?_
    refine zj_aload2 (n := 33) rfl dX5_takeBeginning_32 ?_
    refine zj_iload4 (n := 35) rfl dX5_takeBeginning_33 ?_
    refine zj_callV1 (n := 38) (a' := 0) (b' := 0) rfl dX5_takeBeginning_35 zm_X5_177 (by decide) hT9.1.1 (by rw [hT9.1.2.1]; rfl) (Nat.le_of_ble_eq_true rfl) (Nat.le_of_ble_eq_true rfl) (Nat.le_of_ble_eq_true rfl) (Nat.le_of_ble_eq_true rfl) (jX7_named (x := nI x) hT10 ?_)
    refine zj_iconst_m1 (n := 39) rfl dX5_takeBeginning_38 ?_
    refine zj_icmpO_eq (n := 42) (tgt := 48) rfl dX5_takeBeginning_39 (by decide) (fun m9 hm9 => by have := zfo_lt hm9; have := hT9.2.2.2.2.1; have := hT9.2.2.2.2.2.1; have := hT9.2.2.2.2.2.2; have : cap ≤ c * cap := Nat.le_mul_of_pos_left cap (by omega); omega) (fun c39 => ?_) (fun m39 c39 => ?_)
    · refine zj_iload4 (n := 50) rfl dX5_takeBeginning_48 ?_
      refine zj_ireturn dX5_takeBeginning_50 rfl rfl ?_
      refine h M5 x false hx (hG1.tr (hF4.tr hF5)) hP5 hx5 ?_
      rw [← hrow, c39]
      rfl
    · refine zj_aload0 (n := 43) rfl dX5_takeBeginning_42 ?_
      refine zj_iconstN_3 (n := 44) rfl dX5_takeBeginning_43 ?_
      refine zj_iload3 (n := 45) rfl dX5_takeBeginning_44 ?_
      refine zj_callV2 (n := 48) (a' := 0) (b' := 0) rfl dX5_takeBeginning_45 zm_X5_69 (by decide) (by decide) rfl (Nat.le_of_ble_eq_true rfl) (Nat.le_of_ble_eq_true rfl) (Nat.le_of_ble_eq_true rfl) (Nat.le_of_ble_eq_true rfl) (jX5_refuse hP5 (by decide) ?_)
      intro M6 hF6 hP6
      refine zj_iload4 (n := 50) rfl dX5_takeBeginning_48 ?_
      refine zj_ireturn dX5_takeBeginning_50 rfl rfl ?_
      refine h M6 x true hx (hG1.tr (hF4.tr (hF5.tr (zK23 hF6)))) ?_ hx5 ?_
      · show zPs M6 n B (sRef 3 (tS B n (sTake B n i (sErr 4 B n (decide (m = cap)) s)).2.2) (sName B n (sTake B n i (sErr 4 B n (decide (m = cap)) s))))
        by_cases w : (sTake B n i (sErr 4 B n (decide (m = cap)) s)).1 = 0
        · rw [← he4 w]; exact hP6
        · have w2 : (sName B n (sTake B n i (sErr 4 B n (decide (m = cap)) s))).1 ≠ 0 := fun q => w ((sErr_ok (by decide)).mp (sNext_ok.mp q)).1
          rw [sRef_no w2] at hP6 ⊢
          exact hP6
      · rw [← hrow, c39]
        rfl
