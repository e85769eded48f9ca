/-! STATEMENT AFTER STATEMENT -/
section ST
variable (B : Nat → Nat) (n : Nat)
def stS (v : zV) (s : zS) : zS := if sAt B n s.2.2 8 then sEnd B n (nd10 B n v s) else if sAt B n s.2.2 13 then sEnd B n (tn6 B n v s) else if sAt B n s.2.2 16 then sEnd B n (gp15 B n v s) else sEnd B n (sRef 1 (tS B n s.2.2) s)
def stV (v : zV) (s : zS) : zV := if sAt B n s.2.2 8 then vNode B n v s else if sAt B n s.2.2 13 then vTen B n v s else if sAt B n s.2.2 16 then vGrpF B n v s else v
def pGo (x : zS × zV) : Bool := decide (x.1.1 = 0) && !(tK B n x.1.2.2 == 0)
def pIt (x : zS × zV) : zS × zV := if pGo B n x then (stS B n x.2 x.1, stV B n x.2 x.1) else x
def pAll (x : zS × zV) (k : Nat) : zS × zV := zFor k (fun _ y => pIt B n y) x
def p0 : zS × zV := (sEnd B n (rg9 B n (0, 0, 0)), vRing B n (fun _ => 0) (0, 0, 0))
/-- what a text of n bytes says -/
def pEnd : zS × zV := pAll B n (p0 B n) 1400
end ST
section UP
variable {B : Nat → Nat} {n : Nat} {v : zV} {s s' s'' : zS}
def sUp (n : Nat) (s s' : zS) : Prop := s'.1 = 0 → s.1 = 0 ∧ (s.2.2 ≤ n → s.2.2 ≤ s'.2.2 ∧ s'.2.2 ≤ n)
theorem sUp.rf : sUp n s s := fun h => ⟨h, fun q => ⟨Nat.le_refl _, q⟩⟩
theorem sUp.tr (h : sUp n s s') (h2 : sUp n s' s'') : sUp n s s'' := fun q => by
  obtain ⟨a1, a2⟩ := h2 q
  obtain ⟨b1, b2⟩ := h a1
  refine ⟨b1, fun w => ?_⟩
  have := b2 w
  have := a2 this.2
  omega
theorem sUp_err {k : Nat} {b : Bool} (hk : 0 < k) : sUp n s (sErr k B n b s) := fun q => by
  have := sErr_id hk q
  rw [this] at q ⊢
  exact ⟨q, fun w => ⟨Nat.le_refl _, w⟩⟩
theorem sUp_next : sUp n s (sNext B n s) := fun q => by
  have q1 := sNext_ok.mp q
  rw [sNext_e q1]
  exact ⟨q1, fun w => ⟨(tE_le w).1, (tE_le w).2.1⟩⟩
theorem sUp_take {i : Nat} : sUp n s (sTake B n i s) := (sUp_err (by decide)).tr sUp_next
theorem sUp_numE {lo hi : Nat} : sUp n s (sNumE B n lo hi s) := fun q => by
  have e := sNumE_id q
  rw [e] at q ⊢
  exact ⟨q, fun w => ⟨Nat.le_refl _, w⟩⟩
theorem sUp_num {lo hi : Nat} : sUp n s (sNum B n lo hi s) := sUp_numE.tr sUp_next
theorem sEnd_ok (h : (sEnd B n s).1 = 0) : s.1 = 0 ∧ sSemi B n s.2.2 = true ∧ (s.2.2 ≤ n → s.2.2 < (sEnd B n s).2.2 ∧ (sEnd B n s).2.2 ≤ n) := by
  have q1 := (sErr_ok (by decide)).mp (sNext_ok.mp h)
  have hs : sSemi B n s.2.2 = true := by have := q1.2; simpa using this
  refine ⟨q1.1, hs, fun w => ?_⟩
  have e : sEnd B n s = (0, 0, tE B n s.2.2) := by
    unfold sEnd
    rw [sErr_eq q1.2, sNext_e q1.1]
  rw [e]
  unfold sSemi at hs
  rw [Bool.and_eq_true, beq_iff_eq] at hs
  have h1 := tPos (B := B) (n := n) (e := s.2.2) (by omega)
  have h2 := tS_le (B := B) w
  have h3 := tE_le (B := B) w
  show s.2.2 < tE B n s.2.2 ∧ tE B n s.2.2 ≤ n
  omega
theorem sUp_nd : sUp n s (nd10 B n v s) := (((((((((((sUp_err (by decide)).tr sUp_next).tr (sUp_err (by decide))).tr (sUp_err (by decide))).tr sUp_next).tr sUp_take).tr sUp_numE).tr (sUp_err (by decide))).tr sUp_next).tr sUp_take).tr sUp_num |>.tr (sUp_take.tr (sUp_num.tr (sUp_take.tr sUp_num))))
theorem sUp_tn : sUp n s (tn6 B n v s) := ((((((((sUp_err (by decide)).tr sUp_next).tr (sUp_err (by decide))).tr (sUp_err (by decide))).tr sUp_next).tr sUp_take).tr sUp_num).tr sUp_take).tr sUp_num
theorem sUp_gp : sUp n s (gp14 B n v s) := (((((((((((sUp_err (by decide)).tr sUp_next).tr (sUp_err (by decide))).tr (sUp_err (by decide))).tr sUp_next).tr sUp_take).tr (sUp_err (by decide))).tr (sUp_err (by decide))).tr sUp_next).tr sUp_take).tr sUp_num).tr (sUp_take.tr (sUp_num.tr (sUp_take.tr (sUp_num.tr (sUp_take.tr (sUp_num.tr (sUp_take.tr sUp_num)))))))
theorem sUp_rg : sUp n s (rg9 B n s) := (((((((sUp_take.tr sUp_take).tr sUp_num).tr sUp_take).tr sUp_num).tr sUp_take).tr sUp_num).tr sUp_take).tr ((sUp_err (by decide)).tr sUp_next)
theorem gp15_ok (h : (gp15 B n v s).1 = 0) : gp15 B n v s = gp14 B n v s := by
  unfold gp15 at h ⊢
  split
  · rename_i q
    rw [if_pos q] at h
    by_cases w : (gp14 B n v s).1 = 0
    · rw [sRef_e w] at h; cases h
    · exact sRef_no w
  · rfl
theorem sUp_gp15 : sUp n s (gp15 B n v s) := fun q => by
  have e := gp15_ok q
  rw [e] at q ⊢
  exact sUp_gp q
theorem sRef1_no (hs : s.1 = 0) {q : Nat} : (sEnd B n (sRef 1 q s)).1 ≠ 0 := by
  rw [sRef_e hs, sEnd_no (by simp)]
  simp
/-- a statement goes on, and keeps the bounds -/
theorem stS_up (hs : s.1 = 0) (h : (stS B n v s).1 = 0) (hn : s.2.2 ≤ n) : s.2.2 < (stS B n v s).2.2 ∧ (stS B n v s).2.2 ≤ n := by
  unfold stS at h ⊢
  split
  · rename_i q
    rw [if_pos q] at h
    obtain ⟨a1, -, a3⟩ := sEnd_ok h
    have := (sUp_nd a1).2 hn
    have := a3 this.2
    omega
  · rename_i q
    rw [if_neg q] at h
    split
    · rename_i q2
      rw [if_pos q2] at h
      obtain ⟨a1, -, a3⟩ := sEnd_ok h
      have := (sUp_tn a1).2 hn
      have := a3 this.2
      omega
    · rename_i q2
      rw [if_neg q2] at h
      split
      · rename_i q3
        rw [if_pos q3] at h
        obtain ⟨a1, -, a3⟩ := sEnd_ok h
        have := (sUp_gp15 a1).2 hn
        have := a3 this.2
        omega
      · rename_i q3
        rw [if_neg q3] at h
        exact absurd h (sRef1_no hs)
theorem stV_pv (hp : zPv v) (hs : s.1 = 0) (h : (stS B n v s).1 = 0) : zPv (stV B n v s) := by
  unfold stS at h
  unfold stV
  split
  · rename_i q
    rw [if_pos q] at h
    exact hp.node (sEnd_ok h).1
  · rename_i q
    rw [if_neg q] at h
    split
    · rename_i q2
      rw [if_pos q2] at h
      exact hp.ten (sEnd_ok h).1
    · rename_i q2
      rw [if_neg q2] at h
      split
      · rename_i q3
        rw [if_pos q3] at h
        obtain ⟨a1, a2, -⟩ := sEnd_ok h
        have e := gp15_ok a1
        have a14 : (gp14 B n v s).1 = 0 := by rw [← e]; exact a1
        rw [e] at a2
        cases hz : plS (vGrp B n v s) (v 8) (vsh (vGrp B n v s) (v 8)) with
        | none =>
          unfold gp15 at a1
          rw [a2, hz] at a1
          have a1 : (sRef 5 (tS B n (gp14 B n v s).2.2) (gp14 B n v s)).1 = 0 := a1
          rw [sRef_e a14] at a1
          cases a1
        | some up => exact hp.grp a14 (u := up.1) (p := up.2) hz
      · rename_i q3
        rw [if_neg q3] at h
        exact absurd h (sRef1_no hs)
end UP
theorem pAll_succ {B : Nat → Nat} {n k : Nat} {x : zS × zV} : pAll B n x (k + 1) = pIt B n (pAll B n x k) := rfl
theorem pAll_stop {B : Nat → Nat} {n k : Nat} {x : zS × zV} (h : pGo B n (pAll B n x k) = false) : ∀ m, k ≤ m → pAll B n x m = pAll B n x k := by
  intro m
  induction m with
  | zero => intro hm; have : k = 0 := by omega
            subst this; rfl
  | succ m ih =>
    intro hm
    rcases Nat.lt_or_ge k (m + 1) with q | q
    · rw [pAll_succ, ih (by omega)]
      unfold pIt
      rw [h]
      rfl
    · have : k = m + 1 := by omega
      subst this; rfl
theorem p0_ok {B : Nat → Nat} {n : Nat} (h : (p0 B n).1.1 = 0) : zPv (p0 B n).2 ∧ 0 < (p0 B n).1.2.2 ∧ (p0 B n).1.2.2 ≤ n := by
  have h : (sEnd B n (rg9 B n (0, 0, 0))).1 = 0 := h
  obtain ⟨a1, -, a3⟩ := sEnd_ok h
  have b := (sUp_rg a1).2 (Nat.zero_le n)
  have c := a3 b.2
  refine ⟨zPv.ring (fun _ => rfl) a1, ?_, ?_⟩
  · show 0 < (sEnd B n (rg9 B n (0, 0, 0))).2.2
    omega
  · exact c.2
theorem pAll_ok {B : Nat → Nat} {n : Nat} : ∀ k, (pAll B n (p0 B n) k).1.1 = 0 → zPv (pAll B n (p0 B n) k).2 ∧ (pAll B n (p0 B n) k).1.2.2 ≤ n ∧ ((∀ j, j < k → pGo B n (pAll B n (p0 B n) j) = true) → k < (pAll B n (p0 B n) k).1.2.2) := by
  intro k
  induction k with
  | zero =>
    intro h
    obtain ⟨a1, a2, a3⟩ := p0_ok h
    exact ⟨a1, a3, fun _ => a2⟩
  | succ k ih =>
    intro h
    rw [pAll_succ] at h ⊢
    unfold pIt at h ⊢
    by_cases q : pGo B n (pAll B n (p0 B n) k) = true
    · rw [if_pos q] at h ⊢
      have q1 : (pAll B n (p0 B n) k).1.1 = 0 := by
        unfold pGo at q
        rw [Bool.and_eq_true, decide_eq_true_eq] at q
        exact q.1
      obtain ⟨a1, a2, a3⟩ := ih q1
      have up := stS_up q1 h a2
      refine ⟨stV_pv a1 q1 h, up.2, fun w => ?_⟩
      have := a3 (fun j hj => w j (by omega))
      show k + 1 < (stS B n (pAll B n (p0 B n) k).2 (pAll B n (p0 B n) k).1).2.2
      omega
    · rw [if_neg q] at h ⊢
      obtain ⟨a1, a2, a3⟩ := ih h
      exact ⟨a1, a2, fun w => absurd (w k (by omega)) q⟩
theorem pGo_ends {B : Nat → Nat} {n k : Nat} (hn : n ≤ k) (h : ∀ j, j < k + 1 → pGo B n (pAll B n (p0 B n) j) = true) : False := by
  have q := h k (by omega)
  unfold pGo at q
  rw [Bool.and_eq_true, decide_eq_true_eq] at q
  obtain ⟨-, a2, a3⟩ := pAll_ok k q.1
  have := a3 (fun j hj => h j (by omega))
  omega
theorem pEnd_at {B : Nat → Nat} {n k : Nat} (hk : k ≤ 1400) (h : pGo B n (pAll B n (p0 B n) k) = false) : pEnd B n = pAll B n (p0 B n) k := by
  unfold pEnd
  generalize 1400 = m at hk ⊢
  exact pAll_stop h m hk
theorem pEnd_ok {B : Nat → Nat} {n : Nat} (h : (pEnd B n).1.1 = 0) : zPv (pEnd B n).2 := by
  unfold pEnd at h ⊢
  generalize 1400 = m at h ⊢
  exact (pAll_ok m h).1
theorem jX10_parseStatement {n : Nat} {B : Nat → Nat} {s : zS} {v : zV} {Q : Option Value → zM → Prop} {X : String → zM → Prop} {M : zM} (hP : zPm M n B s) (hs : s.1 = 0) (hA : zRA M 120 v) (hp : zPv v) (h : ∀ M' v', zHf M M' → zPm M' n B (stS B n v s) → zRA M' 120 v' → ((stS B n v s).1 = 0 → v' = stV B n v s) → Q none M') : zJ yX10_parseStatement cX10_parseStatement 1 none rX10_parseStatement Q X rX10_parseStatement.cells rX10_parseStatement.slots 0 (zEnt 1 [.ref 118]) [] M := by
  show zJ yX10_parseStatement cX10_parseStatement 1 none rX10_parseStatement Q X 0 0 0 [some (.ref 118)] [] M
  refine zj_aload0 (n := 1) rfl dX10_parseStatement_0 ?_
  refine zj_ldcwS (i := 8) (n := 4) rfl dX10_parseStatement_1 rfl (by decide) rfl ?_
  refine zj_callV1 (n := 7) (a' := 0) (b' := 0) rfl dX10_parseStatement_4 zm_X10_272 (by decide) (by decide) rfl (Nat.le_of_ble_eq_true rfl) (Nat.le_of_ble_eq_true rfl) (Nat.le_of_ble_eq_true rfl) (Nat.le_of_ble_eq_true rfl) (jX10_isText (i := 8) hP (by decide) ?_)
  refine zj_ifB_eq (n := 10) (tgt := 17) rfl dX10_parseStatement_7 (by decide) (fun c7 => ?_) (fun c7 => ?_)
  · refine zj_aload0 (n := 18) rfl dX10_parseStatement_17 ?_
    refine zj_ldcwS (i := 13) (n := 21) rfl dX10_parseStatement_18 rfl (by decide) rfl ?_
    refine zj_callV1 (n := 24) (a' := 0) (b' := 0) rfl dX10_parseStatement_21 zm_X10_272 (by decide) (by decide) rfl (Nat.le_of_ble_eq_true rfl) (Nat.le_of_ble_eq_true rfl) (Nat.le_of_ble_eq_true rfl) (Nat.le_of_ble_eq_true rfl) (jX10_isText (i := 13) hP (by decide) ?_)
    refine zj_ifB_eq (n := 27) (tgt := 34) rfl dX10_parseStatement_24 (by decide) (fun c24 => ?_) (fun c24 => ?_)
    · refine zj_aload0 (n := 35) rfl dX10_parseStatement_34 ?_
      refine zj_ldcwS (i := 16) (n := 38) rfl dX10_parseStatement_35 rfl (by decide) rfl ?_
      refine zj_callV1 (n := 41) (a' := 0) (b' := 0) rfl dX10_parseStatement_38 zm_X10_272 (by decide) (by decide) rfl (Nat.le_of_ble_eq_true rfl) (Nat.le_of_ble_eq_true rfl) (Nat.le_of_ble_eq_true rfl) (Nat.le_of_ble_eq_true rfl) (jX10_isText (i := 16) hP (by decide) ?_)
      refine zj_ifB_eq (n := 44) (tgt := 51) rfl dX10_parseStatement_41 (by decide) (fun c41 => ?_) (fun c41 => ?_)
      · refine zj_aload0 (n := 52) rfl dX10_parseStatement_51 ?_
        refine zj_iconstN_1 (n := 53) rfl dX10_parseStatement_52 ?_
        refine zj_callV1 (n := 56) (a' := 0) (b' := 0) rfl dX10_parseStatement_53 zm_X10_317 (by decide) (by decide) rfl (Nat.le_of_ble_eq_true rfl) (Nat.le_of_ble_eq_true rfl) (Nat.le_of_ble_eq_true rfl) (Nat.le_of_ble_eq_true rfl) (jX10_errs hP (by decide) ?_)
        intro M1 hG1 hP1
        refine zj_aload0 (n := 57) rfl dX10_parseStatement_56 ?_
        refine zj_callV0 (n := 60) (a' := 0) (b' := 0) rfl dX10_parseStatement_57 zm_X10_373 (by decide) (by decide) rfl (Nat.le_of_ble_eq_true rfl) (Nat.le_of_ble_eq_true rfl) (Nat.le_of_ble_eq_true rfl) (Nat.le_of_ble_eq_true rfl) (jX10_semicolon hP1 ?_)
        intro M2 hG2 hP2
        refine zj_return dX10_parseStatement_60 rfl ?_
        have n8 : sAt B n s.2.2 8 = false := by rw [decide_eq_true hs, Bool.true_and] at c7; exact c7
        have n13 : sAt B n s.2.2 13 = false := by rw [decide_eq_true hs, Bool.true_and] at c24; exact c24
        have n16 : sAt B n s.2.2 16 = false := by rw [decide_eq_true hs, Bool.true_and] at c41; exact c41
        have eS : stS B n v s = sEnd B n (sRef 1 (tS B n s.2.2) s) := by unfold stS; rw [if_neg (by rw [n8]; simp), if_neg (by rw [n13]; simp), if_neg (by rw [n16]; simp)]
        have eV : stV B n v s = v := by unfold stV; rw [if_neg (by rw [n8]; simp), if_neg (by rw [n13]; simp), if_neg (by rw [n16]; simp)]
        rw [eS, eV] at h
        exact h M2 v ((zHf.of2 hG1).tr (zHf.of hG2)) hP2 ((hA.gf hG1).gf hG2) (fun _ => rfl)
      · refine zj_aload0 (n := 45) rfl dX10_parseStatement_44 ?_
        refine zj_callV0 (n := 48) (a' := 0) (b' := 0) rfl dX10_parseStatement_45 zm_X10_370 (by decide) (by decide) rfl (Nat.le_of_ble_eq_true rfl) (Nat.le_of_ble_eq_true rfl) (Nat.le_of_ble_eq_true rfl) (Nat.le_of_ble_eq_true rfl) (jX10_parseGroup hP hA hp.1 hp.2.1 ?_)
        intro M1 v1 hF1 hP1 hA1 hv1
        refine zj_goto (tgt := 56) dX10_parseStatement_48 (by decide) ?_
        refine zj_aload0 (n := 57) rfl dX10_parseStatement_56 ?_
        refine zj_callV0 (n := 60) (a' := 0) (b' := 0) rfl dX10_parseStatement_57 zm_X10_373 (by decide) (by decide) rfl (Nat.le_of_ble_eq_true rfl) (Nat.le_of_ble_eq_true rfl) (Nat.le_of_ble_eq_true rfl) (Nat.le_of_ble_eq_true rfl) (jX10_semicolon hP1 ?_)
        intro M2 hG2 hP2
        refine zj_return dX10_parseStatement_60 rfl ?_
        have n8 : sAt B n s.2.2 8 = false := by rw [decide_eq_true hs, Bool.true_and] at c7; exact c7
        have n13 : sAt B n s.2.2 13 = false := by rw [decide_eq_true hs, Bool.true_and] at c24; exact c24
        have y16 : sAt B n s.2.2 16 = true := by rw [Bool.and_eq_true] at c41; exact c41.2
        have eS : stS B n v s = sEnd B n (gp15 B n v s) := by unfold stS; rw [if_neg (by rw [n8]; simp), if_neg (by rw [n13]; simp), if_pos y16]
        have eV : stV B n v s = vGrpF B n v s := by unfold stV; rw [if_neg (by rw [n8]; simp), if_neg (by rw [n13]; simp), if_pos y16]
        rw [eS, eV] at h
        exact h M2 v1 (hF1.tr (zHf.of hG2)) hP2 (hA1.gf hG2) hv1
    · refine zj_aload0 (n := 28) rfl dX10_parseStatement_27 ?_
      refine zj_callV0 (n := 31) (a' := 0) (b' := 0) rfl dX10_parseStatement_28 zm_X10_367 (by decide) (by decide) rfl (Nat.le_of_ble_eq_true rfl) (Nat.le_of_ble_eq_true rfl) (Nat.le_of_ble_eq_true rfl) (Nat.le_of_ble_eq_true rfl) (jX10_parseTenant hP hA hp.1 hp.2.1 ?_)
      intro M1 v1 hF1 hP1 hA1 hv1
      refine zj_goto (tgt := 56) dX10_parseStatement_31 (by decide) ?_
      refine zj_aload0 (n := 57) rfl dX10_parseStatement_56 ?_
      refine zj_callV0 (n := 60) (a' := 0) (b' := 0) rfl dX10_parseStatement_57 zm_X10_373 (by decide) (by decide) rfl (Nat.le_of_ble_eq_true rfl) (Nat.le_of_ble_eq_true rfl) (Nat.le_of_ble_eq_true rfl) (Nat.le_of_ble_eq_true rfl) (jX10_semicolon hP1 ?_)
      intro M2 hG2 hP2
      refine zj_return dX10_parseStatement_60 rfl ?_
      have n8 : sAt B n s.2.2 8 = false := by rw [decide_eq_true hs, Bool.true_and] at c7; exact c7
      have y13 : sAt B n s.2.2 13 = true := by rw [Bool.and_eq_true] at c24; exact c24.2
      have eS : stS B n v s = sEnd B n (tn6 B n v s) := by unfold stS; rw [if_neg (by rw [n8]; simp), if_pos y13]
      have eV : stV B n v s = vTen B n v s := by unfold stV; rw [if_neg (by rw [n8]; simp), if_pos y13]
      rw [eS, eV] at h
      exact h M2 v1 (hF1.tr (zHf.of hG2)) hP2 (hA1.gf hG2) (fun q => hv1 (sEnd_ok q).1)
  · refine zj_aload0 (n := 11) rfl dX10_parseStatement_10 ?_
    refine zj_callV0 (n := 14) (a' := 0) (b' := 0) rfl dX10_parseStatement_11 zm_X10_364 (by decide) (by decide) rfl (Nat.le_of_ble_eq_true rfl) (Nat.le_of_ble_eq_true rfl) (Nat.le_of_ble_eq_true rfl) (Nat.le_of_ble_eq_true rfl) (jX10_parseNode hP hA hp.1 hp.2.1 ?_)
    intro M1 v1 hF1 hP1 hA1 hv1
    refine zj_goto (tgt := 56) dX10_parseStatement_14 (by decide) ?_
    refine zj_aload0 (n := 57) rfl dX10_parseStatement_56 ?_
    refine zj_callV0 (n := 60) (a' := 0) (b' := 0) rfl dX10_parseStatement_57 zm_X10_373 (by decide) (by decide) rfl (Nat.le_of_ble_eq_true rfl) (Nat.le_of_ble_eq_true rfl) (Nat.le_of_ble_eq_true rfl) (Nat.le_of_ble_eq_true rfl) (jX10_semicolon hP1 ?_)
    intro M2 hG2 hP2
    refine zj_return dX10_parseStatement_60 rfl ?_
    have y8 : sAt B n s.2.2 8 = true := by rw [Bool.and_eq_true] at c7; exact c7.2
    have eS : stS B n v s = sEnd B n (nd10 B n v s) := by unfold stS; rw [if_pos y8]
    have eV : stV B n v s = vNode B n v s := by unfold stV; rw [if_pos y8]
    rw [eS, eV] at h
    exact h M2 v1 (hF1.tr (zHf.of hG2)) hP2 (hA1.gf hG2) (fun q => hv1 (sEnd_ok q).1)
theorem z_ld101 {n : Nat} {B : Nat → Nat} {x : zS × zV} {v w : zV} {un : Nat} {uv : Nat → zV} {Q : Option Value → zM → Prop} {X : String → zM → Prop} {M : zM} (hP : zPm M n B x.1) (hw : zRA M 120 w) (hwx : x.1.1 = 0 → w = x.2) (hA : ∀ j, j < 698 → M.1 119 j = nI (v j)) (hU : zMu M un uv) (h : ∀ M', (∀ a, a ≠ 118 → a ≠ 119 → a ≠ 128 → M'.1 a = M.1 a) → M'.2.1 = M.2.1 → M'.2.2.1 = M.2.2.1 → (∀ j, j ≠ 27 → M'.1 118 j = M.1 118 j) → zRA M' 119 (if x.1.1 = 0 then x.2 else v) → zMu M' (if x.1.1 = 0 then vkN un else un) (if x.1.1 = 0 then vkU un uv v else uv) → Q (some (.int (if x.1.1 = 0 then nI (x.2 8) else -4))) M') : zJ yX10_load cX10_load 2 (some .int) rX10_load Q X 0 0 101 [some (.ref 118), none] [] M := by
  refine zj_aload0 (n := 102) rfl dX10_load_101 ?_
  refine zj_aload0 (n := 103) rfl dX10_load_102 ?_
  refine zj_getr (n := 106) (q := 119) rfl dX10_load_103 zf_X10_17 rfl (by decide) (by decide) rfl ?_
  refine zj_putnow (n := 109) rfl dX10_load_106 zp_X10_24 ?_
  refine zj_aload0 (n := 110) rfl dX10_load_109 ?_
  refine zj_callV0 (n := 113) (a' := 0) (b' := 0) rfl dX10_load_110 zm_X10_226 (by decide) (by decide) rfl (Nat.le_of_ble_eq_true rfl) (Nat.le_of_ble_eq_true rfl) (Nat.le_of_ble_eq_true rfl) (Nat.le_of_ble_eq_true rfl) (jX10_good (hP.cg rfl rfl) ?_)
  refine zj_ifB_ne (n := 116) (tgt := 119) rfl dX10_load_113 (by decide) (fun c113 => ?_) (fun c113 => ?_)
  · refine zj_aload0 (n := 120) rfl dX10_load_119 ?_
    refine zj_callV0 (n := 123) (a' := 0) (b' := 0) rfl dX10_load_120 zm_X10_382 (by decide) (by decide) rfl (Nat.le_of_ble_eq_true rfl) (Nat.le_of_ble_eq_true rfl) (Nat.le_of_ble_eq_true rfl) (Nat.le_of_ble_eq_true rfl) (jX10_remember (v := v) (M := (M.1, M.2.1, M.2.2.1, 119)) ⟨rfl, Or.inl rfl, hA⟩ hU ?_)
    intro M2 hF2 hG2 hs2 hU2
    have hx0 := of_decide_eq_true c113
    have ew := hwx hx0
    subst ew
    have h120 : ∀ j, j < 698 → M2.1 120 j = nI (x.2 j) := fun j hj => by rw [hF2 120 (by decide) (by decide)]; exact hw.2.2 j hj
    refine zj_iconstN_0 (n := 124) rfl dX10_load_123 ?_
    refine zj_istore1 (n := 125) rfl dX10_load_124 rfl (Nat.le_of_ble_eq_true rfl) ?_
    refine zFor_rule (P := fun k (_ : Unit) => ∀ M3, (∀ a9, a9 ≠ 119 → M3.1 a9 = M2.1 a9) → M3.2 = M2.2 → (∀ j, j < k → M3.1 119 j = nI (x.2 j)) → zJ yX10_load cX10_load 2 (some .int) rX10_load Q X 0 0 125 [some (.ref 118), some (.int (nI k))] [] M3) (n := 698) (f := fun _ s => s) (s0 := ()) ?_ ?_ M2 (fun _ _ => rfl) rfl (fun j hj => absurd hj (by omega))
    · intro k _ hk9 hk M3 hF3 hs3 hB3
      refine zj_iload1 (n := 126) rfl dX10_load_125 ?_
      refine zj_sipushN (v := 698) (n := 129) rfl dX10_load_126 (by decide) ?_
      refine zj_icmpN_ge (n := 132) (tgt := 150) rfl dX10_load_129 (by decide) (by omega) (by omega) (fun c129 => by omega) (fun c129 => ?_)
      refine zj_aload0 (n := 133) rfl dX10_load_132 ?_
      refine zj_getr (n := 136) (q := 119) rfl dX10_load_133 zf_X10_17 rfl (by decide) (by decide) rfl ?_
      refine zj_iload1 (n := 137) rfl dX10_load_136 ?_
      refine zj_aload0 (n := 138) rfl dX10_load_137 ?_
      refine zj_getr (n := 141) (q := 120) rfl dX10_load_138 zf_X10_21 rfl (by decide) (by decide) rfl ?_
      refine zj_iload1 (n := 142) rfl dX10_load_141 ?_
      refine zj_ialoadN (e := x.2 k) (n := 143) rfl dX10_load_142 (by decide) rfl (by rw [show zLen 120 = 698 from rfl]; omega) (by rw [hF3 120 (by decide)]; exact h120 k (by omega)) ?_
      refine zj_iastoreN (n := 144) rfl dX10_load_143 (by decide) rfl (by rw [show zLen 119 = 698 from rfl]; omega) ?_
      refine zj_iincN1 (n := 147) rfl dX10_load_144 rfl (Nat.le_of_ble_eq_true rfl) ?_
      refine zj_goto (tgt := 125) dX10_load_147 (by decide) ?_
      exact hk _ (fun a9 h9 => (zU_off h9).trans (hF3 a9 h9)) hs3 (fun j hj => by
        dsimp only
        by_cases q : j = k
        · subst q; exact zU_eq
        · rw [zU_nj q]; exact hB3 j (by omega))
    · intro M3 hF3 hs3 hB3
      refine zj_iload1 (n := 126) rfl dX10_load_125 ?_
      refine zj_sipushN (v := 698) (n := 129) rfl dX10_load_126 (by decide) ?_
      refine zj_icmpN_ge (n := 132) (tgt := 150) rfl dX10_load_129 (by decide) (by omega) (by omega) (fun c129 => ?_) (fun c129 => by omega)
      refine zj_aload0 (n := 151) rfl dX10_load_150 ?_
      refine zj_getr (n := 154) (q := 119) rfl dX10_load_151 zf_X10_17 rfl (by decide) (by decide) rfl ?_
      refine zj_bipushN (v := 8) (n := 156) rfl dX10_load_154 (by decide) ?_
      refine zj_ialoadN (e := x.2 8) (n := 157) rfl dX10_load_156 (by decide) rfl (by rw [show zLen 119 = 698 from rfl]; omega) (hB3 8 (by decide)) ?_
      refine zj_ireturn dX10_load_157 rfl rfl ?_
      rw [if_pos hx0, if_pos hx0, if_pos hx0, if_pos hx0] at h
      exact h M3 (fun a h1 h2 h3 => by rw [hF3 a h2, hF2 a h3 h1]) (by rw [hs3, hs2]) (by rw [hs3, hs2]) (fun j hj => by rw [hF3 118 (by decide), hG2 j hj]) ⟨by rw [hs3, hs2], Or.inl rfl, hB3⟩ ⟨hU2.1, by rw [hF3 118 (by decide)]; exact hU2.2.1, fun i hi j hj => by rw [hF3 128 (by decide)]; exact hU2.2.2 i hi j hj⟩
  · refine zj_bipush (v := (-4)) (n := 118) rfl dX10_load_116 (by decide) ?_
    refine zj_ireturn dX10_load_118 rfl rfl ?_
    have hx := of_decide_eq_false c113
    rw [if_neg hx, if_neg hx, if_neg hx, if_neg hx] at h
    exact h _ (fun _ _ _ _ => rfl) rfl rfl (fun _ _ => rfl) ⟨rfl, Or.inl rfl, hA⟩ hU
def zLm (M M' : zM) : Prop := (∀ a, a ≠ 118 → a ≠ 119 → a ≠ 120 → a ≠ 128 → M'.1 a = M.1 a) ∧ M'.2.1 = M.2.1 ∧ M'.2.2.1 = M.2.2.1 ∧ (∀ j, 28 ≤ j → M'.1 118 j = M.1 118 j)
theorem z_ld68 {n : Nat} {B : Nat → Nat} {v : zV} {un : Nat} {uv : Nat → zV} {Q : Option Value → zM → Prop} {X : String → zM → Prop} {M : zM} (hT : zTt M n B) (hz : zRA M 120 (fun _ => 0)) (hN : ∀ j, j < 698 → M.1 119 j = nI (v j)) (hU : zMu M un uv) (h17 : M.1 118 17 = nI 0) (h19 : M.1 118 19 = nI 0) (h23 : M.1 118 23 = nI 0) (h24 : M.1 118 24 = -1) (h4 : M.1 118 4 = nI 0) (h0 : M.1 118 0 = nI 0) (h : ∀ M', zLm M M' → M'.1 118 0 = nI 0 → M'.1 118 17 = nI 0 → M'.1 118 4 = nI 0 → M'.1 118 23 = nI (pEnd B n).1.1 → ((pEnd B n).1.1 ≠ 0 → M'.1 118 24 = nI (pEnd B n).1.2.1) → ((pEnd B n).1.1 = 0 → M'.1 118 24 = -1) → zRA M' 119 (if (pEnd B n).1.1 = 0 then (pEnd B n).2 else v) → zMu M' (if (pEnd B n).1.1 = 0 then vkN un else un) (if (pEnd B n).1.1 = 0 then vkU un uv v else uv) → Q (some (.int (if (pEnd B n).1.1 = 0 then nI ((pEnd B n).2 8) else -4))) M') : zJ yX10_load cX10_load 2 (some .int) rX10_load Q X 0 0 68 [some (.ref 118), none] [] M := by
  have hn := hT.1
  refine zj_aload0 (n := 69) rfl dX10_load_68 ?_
  refine zj_callV0 (n := 72) (a' := 0) (b' := 0) rfl dX10_load_69 zm_X10_257 (by decide) (by decide) rfl (Nat.le_of_ble_eq_true rfl) (Nat.le_of_ble_eq_true rfl) (Nat.le_of_ble_eq_true rfl) (Nat.le_of_ble_eq_true rfl) (jX10_scan0 (e := 0) hT h19 (Nat.zero_le n) ?_)
  intro M1 hG1 hK1
  have hF1 : zHf M M1 := zHf.of (hG1.mono (fun j hj => by
    unfold zG5 at hj
    simp only [Bool.and_eq_false_iff, decide_eq_false_iff_not] at hj
    simp only [Bool.or_eq_false_iff, beq_eq_false_iff_ne]
    omega))
  have hA1 := hz.gf hG1
  have hP1 : zPm M1 n B (0, 0, 0) := ⟨hT.gf hG1 rfl, by rw [hG1.2.2 23 rfl]; exact h23, by decide, fun q => absurd rfl q, fun _ => by rw [hG1.2.2 24 rfl]; exact h24, 0, Nat.zero_le n, hK1, fun _ => rfl⟩
  refine zj_aload0 (n := 73) rfl dX10_load_72 ?_
  refine zj_callV0 (n := 76) (a' := 0) (b' := 0) rfl dX10_load_73 zm_X10_376 (by decide) (by decide) rfl (Nat.le_of_ble_eq_true rfl) (Nat.le_of_ble_eq_true rfl) (Nat.le_of_ble_eq_true rfl) (Nat.le_of_ble_eq_true rfl) (jX10_parseRing hP1 hA1 ?_)
  intro M2 w2 hF2 hP2a hA2 hw2
  refine zj_aload0 (n := 77) rfl dX10_load_76 ?_
  refine zj_callV0 (n := 80) (a' := 0) (b' := 0) rfl dX10_load_77 zm_X10_373 (by decide) (by decide) rfl (Nat.le_of_ble_eq_true rfl) (Nat.le_of_ble_eq_true rfl) (Nat.le_of_ble_eq_true rfl) (Nat.le_of_ble_eq_true rfl) (jX10_semicolon hP2a ?_)
  intro M5 hG5 hP5
  refine zFind_rule (P := fun k => ∀ M3 w3, zHf M M3 → zPm M3 n B (pAll B n (p0 B n) k).1 → zRA M3 120 w3 → ((pAll B n (p0 B n) k).1.1 = 0 → w3 = (pAll B n (p0 B n) k).2) → zJ yX10_load cX10_load 2 (some .int) rX10_load Q X 0 0 80 [some (.ref 118), none] [] M3) (n := 1400 + 1) (p := fun k => !pGo B n (pAll B n (p0 B n) k)) ?_ ?_ M5 w2 ((hF1.tr hF2).tr (zHf.of hG5)) hP5 (hA2.gf hG5) (fun q => hw2 (sEnd_ok q).1)
  · intro k hk hf hkk M3 w3 hF3 hP3 hA3 hv3
    refine zj_aload0 (n := 81) rfl dX10_load_80 ?_
    refine zj_callV0 (n := 84) (a' := 0) (b' := 0) rfl dX10_load_81 zm_X10_226 (by decide) (by decide) rfl (Nat.le_of_ble_eq_true rfl) (Nat.le_of_ble_eq_true rfl) (Nat.le_of_ble_eq_true rfl) (Nat.le_of_ble_eq_true rfl) (jX10_good hP3 ?_)
    refine zj_ifB_eq (n := 87) (tgt := 101) rfl dX10_load_84 (by decide) (fun c84 => ?_) (fun c84 => ?_)
    · have hng : pGo B n (pAll B n (p0 B n) k) = false := by unfold pGo; rw [c84]; rfl
      have eE := pEnd_at (show k ≤ 1400 by omega) hng
      rw [eE] at h
      have h23 := hP3.2.1
      have hp24 := hP3.2.2.2.1
      have hm24 := hP3.2.2.2.2.1
      exact z_ld101 hP3 hA3 hv3 (fun j hj => by rw [hF3.1 119 (by decide) (by decide)]; exact hN j hj) ⟨hU.1, by rw [hF3.2.2 27 rfl]; exact hU.2.1, fun i hi j hj => by rw [hF3.1 128 (by decide) (by decide)]; exact hU.2.2 i hi j hj⟩ (fun M' g1 g2 g3 g4 g5 g6 => h M' ⟨fun a h1 h2 h3 h4 => (g1 a h1 h2 h4).trans (hF3.1 a h1 h3), g2.trans (by rw [hF3.2.1]), g3.trans (by rw [hF3.2.1]), fun j hj => (g4 j (by omega)).trans (hF3.2.2 j (by unfold zG5; rw [decide_eq_false (show ¬ j ≤ 24 by omega), Bool.and_false]))⟩ (by rw [g4 0 (by decide), hF3.2.2 0 rfl]; exact h0) (by rw [g4 17 (by decide), hF3.2.2 17 rfl]; exact h17) (by rw [g4 4 (by decide), hF3.2.2 4 rfl]; exact h4) (by rw [g4 23 (by decide)]; exact h23) (fun q => by rw [g4 24 (by decide)]; exact hp24 q) (fun q => by rw [g4 24 (by decide)]; exact hm24 q) g5 g6)
    · refine zj_aload0 (n := 88) rfl dX10_load_87 ?_
      refine zj_getiN (e := tK B n (pAll B n (p0 B n) k).1.2.2) (n := 91) rfl dX10_load_88 zf_X10_242 rfl (by decide) (by decide) (by obtain ⟨-, -, -, -, -, e3, -, hK3, he3⟩ := id hP3; rw [← he3 (of_decide_eq_true c84)]; exact hK3.1) ?_
      refine zj_ifN_eq (n := 94) (tgt := 101) rfl dX10_load_91 (by decide) (by have : tK B n (pAll B n (p0 B n) k).1.2.2 ≤ 3 := sK_le; omega) (fun c91 => ?_) (fun c91 => ?_)
      · have hng : pGo B n (pAll B n (p0 B n) k) = false := by unfold pGo; rw [c91, c84]; rfl
        have eE := pEnd_at (show k ≤ 1400 by omega) hng
        rw [eE] at h
        have h23 := hP3.2.1
        have hp24 := hP3.2.2.2.1
        have hm24 := hP3.2.2.2.2.1
        exact z_ld101 hP3 hA3 hv3 (fun j hj => by rw [hF3.1 119 (by decide) (by decide)]; exact hN j hj) ⟨hU.1, by rw [hF3.2.2 27 rfl]; exact hU.2.1, fun i hi j hj => by rw [hF3.1 128 (by decide) (by decide)]; exact hU.2.2 i hi j hj⟩ (fun M' g1 g2 g3 g4 g5 g6 => h M' ⟨fun a h1 h2 h3 h4 => (g1 a h1 h2 h4).trans (hF3.1 a h1 h3), g2.trans (by rw [hF3.2.1]), g3.trans (by rw [hF3.2.1]), fun j hj => (g4 j (by omega)).trans (hF3.2.2 j (by unfold zG5; rw [decide_eq_false (show ¬ j ≤ 24 by omega), Bool.and_false]))⟩ (by rw [g4 0 (by decide), hF3.2.2 0 rfl]; exact h0) (by rw [g4 17 (by decide), hF3.2.2 17 rfl]; exact h17) (by rw [g4 4 (by decide), hF3.2.2 4 rfl]; exact h4) (by rw [g4 23 (by decide)]; exact h23) (fun q => by rw [g4 24 (by decide)]; exact hp24 q) (fun q => by rw [g4 24 (by decide)]; exact hm24 q) g5 g6)
      · refine zj_aload0 (n := 95) rfl dX10_load_94 ?_
        refine zj_callV0 (n := 98) (a' := 0) (b' := 0) rfl dX10_load_95 zm_X10_379 (by decide) (by decide) rfl (Nat.le_of_ble_eq_true rfl) (Nat.le_of_ble_eq_true rfl) (Nat.le_of_ble_eq_true rfl) (Nat.le_of_ble_eq_true rfl) (jX10_parseStatement (v := (pAll B n (p0 B n) k).2) (s := (pAll B n (p0 B n) k).1) hP3 (of_decide_eq_true c84) (hv3 (of_decide_eq_true c84) ▸ hA3) (pAll_ok k (of_decide_eq_true c84)).1 ?_)
        intro M6 v6 hF6 hP6 hA6 hv6
        refine zj_goto (tgt := 80) dX10_load_98 (by decide) ?_
        have hgo : pGo B n (pAll B n (p0 B n) k) = true := by
          unfold pGo
          rw [c84, show (tK B n (pAll B n (p0 B n) k).1.2.2 == 0) = false from beq_false_of_ne (by omega)]
          rfl
        have eI : pAll B n (p0 B n) (k + 1) = (stS B n (pAll B n (p0 B n) k).2 (pAll B n (p0 B n) k).1, stV B n (pAll B n (p0 B n) k).2 (pAll B n (p0 B n) k).1) := by rw [pAll_succ]; unfold pIt; rw [hgo]; rfl
        exact hkk (by rw [hgo]; rfl) M6 v6 (hF3.tr hF6) (by rw [eI]; exact hP6) hA6 (by rw [eI]; exact hv6)
  · intro hf
    exact (pGo_ends hn (fun j hj => by have := hf j hj; simpa using this)).elim
theorem jX10_load {n : Nat} {B : Nat → Nat} {v : zV} {un : Nat} {uv : Nat → zV} {Q : Option Value → zM → Prop} {X : String → zM → Prop} {M : zM} (hA : zRA M 119 v) (hU : zMu M un uv) (hn : n ≤ 1400) (h17 : M.1 118 17 = nI n) (hB : zBf M 129 n B) (h : ∀ M', zLm M M' → M'.1 118 0 = nI 0 → M'.1 118 17 = nI 0 → M'.1 118 4 = nI 0 → M'.1 118 23 = nI (pEnd B n).1.1 → ((pEnd B n).1.1 ≠ 0 → M'.1 118 24 = nI (pEnd B n).1.2.1) → ((pEnd B n).1.1 = 0 → M'.1 118 24 = -1) → zRA M' 119 (if (pEnd B n).1.1 = 0 then (pEnd B n).2 else v) → zMu M' (if (pEnd B n).1.1 = 0 then vkN un else un) (if (pEnd B n).1.1 = 0 then vkU un uv v else uv) → Q (some (.int (if (pEnd B n).1.1 = 0 then nI ((pEnd B n).2 8) else -4))) M') : zJ yX10_load cX10_load 2 (some .int) rX10_load Q X rX10_load.cells rX10_load.slots 0 (zEnt 2 [.ref 118]) [] M := by
  show zJ yX10_load cX10_load 2 (some .int) rX10_load Q X 0 0 0 [some (.ref 118), none] [] M
  refine zj_aload0 (n := 1) rfl dX10_load_0 ?_
  refine zj_iconstN_0 (n := 2) rfl dX10_load_1 ?_
  refine zj_puti (n := 5) rfl dX10_load_2 zp_X10_3 rfl (by decide) (by decide) ?_
  refine zj_aload0 (n := 6) rfl dX10_load_5 ?_
  refine zj_aload0 (n := 7) rfl dX10_load_6 ?_
  refine zj_getiN (e := n) (n := 10) rfl dX10_load_7 zf_X10_213 rfl (by decide) (by decide) (by dsimp only; rw [zU_nj (by decide)]; exact h17) ?_
  refine zj_puti (n := 13) rfl dX10_load_10 zp_X10_233 rfl (by decide) (by decide) ?_
  refine zj_aload0 (n := 14) rfl dX10_load_13 ?_
  refine zj_iconstN_0 (n := 15) rfl dX10_load_14 ?_
  refine zj_puti (n := 18) rfl dX10_load_15 zp_X10_213 rfl (by decide) (by decide) ?_
  refine zj_aload0 (n := 19) rfl dX10_load_18 ?_
  refine zj_iconstN_0 (n := 20) rfl dX10_load_19 ?_
  refine zj_puti (n := 23) rfl dX10_load_20 zp_X10_236 rfl (by decide) (by decide) ?_
  refine zj_aload0 (n := 24) rfl dX10_load_23 ?_
  refine zj_iconstN_0 (n := 25) rfl dX10_load_24 ?_
  refine zj_puti (n := 28) rfl dX10_load_25 zp_X10_223 rfl (by decide) (by decide) ?_
  refine zj_aload0 (n := 29) rfl dX10_load_28 ?_
  refine zj_iconst_m1 (n := 30) rfl dX10_load_29 ?_
  refine zj_puti (n := 33) rfl dX10_load_30 zp_X10_50 rfl (by decide) (by decide) ?_
  refine zj_aload0 (n := 34) rfl dX10_load_33 ?_
  refine zj_iconstN_0 (n := 35) rfl dX10_load_34 ?_
  refine zj_puti (n := 38) rfl dX10_load_35 zp_X10_99 rfl (by decide) (by decide) ?_
  refine zj_gen (P := fun M1 => M1.1 118 0 = nI 0 ∧ M1.1 118 18 = nI n ∧ M1.1 118 17 = nI 0 ∧ M1.1 118 19 = nI 0 ∧ M1.1 118 23 = nI 0 ∧ M1.1 118 24 = -1 ∧ M1.1 118 4 = nI 0 ∧ (∀ a, a ≠ 118 → M1.1 a = M.1 a) ∧ M1.2 = M.2 ∧ ∀ j, 25 ≤ j → M1.1 118 j = M.1 118 j) ⟨by dsimp only; rw [zU_nj (by decide), zU_nj (by decide), zU_nj (by decide), zU_nj (by decide), zU_nj (by decide), zU_nj (by decide), zU_eq], by dsimp only; rw [zU_nj (by decide), zU_nj (by decide), zU_nj (by decide), zU_nj (by decide), zU_nj (by decide), zU_eq], by dsimp only; rw [zU_nj (by decide), zU_nj (by decide), zU_nj (by decide), zU_nj (by decide), zU_eq], by dsimp only; rw [zU_nj (by decide), zU_nj (by decide), zU_nj (by decide), zU_eq], by dsimp only; rw [zU_nj (by decide), zU_nj (by decide), zU_eq], by dsimp only; rw [zU_nj (by decide), zU_eq], by dsimp only; rw [zU_eq], fun a ha => by dsimp only; rw [zU_off ha, zU_off ha, zU_off ha, zU_off ha, zU_off ha, zU_off ha, zU_off ha], rfl, fun j hj => by dsimp only; rw [zU_nj (by omega), zU_nj (by omega), zU_nj (by omega), zU_nj (by omega), zU_nj (by omega), zU_nj (by omega), zU_nj (by omega)]⟩ ?_
  intro M1 h1
  obtain ⟨g0, g18, g17, g19, g23, g24, g4, gF, gs, gj⟩ := h1
  refine zj_iconstN_0 (n := 39) rfl dX10_load_38 ?_
  refine zj_istore1 (n := 40) rfl dX10_load_39 rfl (Nat.le_of_ble_eq_true rfl) ?_
  refine zFor_rule (P := fun k (_ : Unit) => ∀ M2, (∀ a9, a9 ≠ 120 → M2.1 a9 = M1.1 a9) → M2.2 = M1.2 → (∀ j, j < k → M2.1 120 j = nI 0) → zJ yX10_load cX10_load 2 (some .int) rX10_load Q X 0 0 40 [some (.ref 118), some (.int (nI k))] [] M2) (n := 698) (f := fun _ s => s) (s0 := ()) ?_ ?_ M1 (fun _ _ => rfl) rfl (fun j hj => absurd hj (by omega))
  · intro k _ hk9 hk M2 hF2 hs2 hZ2
    refine zj_iload1 (n := 41) rfl dX10_load_40 ?_
    refine zj_sipushN (v := 698) (n := 44) rfl dX10_load_41 (by decide) ?_
    refine zj_icmpN_ge (n := 47) (tgt := 60) rfl dX10_load_44 (by decide) (by omega) (by omega) (fun c44 => by omega) (fun c44 => ?_)
    refine zj_aload0 (n := 48) rfl dX10_load_47 ?_
    refine zj_getr (n := 51) (q := 120) rfl dX10_load_48 zf_X10_21 rfl (by decide) (by decide) rfl ?_
    refine zj_iload1 (n := 52) rfl dX10_load_51 ?_
    refine zj_iconstN_0 (n := 53) rfl dX10_load_52 ?_
    refine zj_iastoreN (n := 54) rfl dX10_load_53 (by decide) rfl (by rw [show zLen 120 = 698 from rfl]; omega) ?_
    refine zj_iincN1 (n := 57) rfl dX10_load_54 rfl (Nat.le_of_ble_eq_true rfl) ?_
    refine zj_goto (tgt := 40) dX10_load_57 (by decide) ?_
    exact hk _ (fun a9 h9 => (zU_off h9).trans (hF2 a9 h9)) hs2 (fun j hj => by
      dsimp only
      by_cases q : j = k
      · subst q; exact zU_eq
      · rw [zU_nj q]; exact hZ2 j (by omega))
  · intro M2 hF2 hs2 hZ2
    refine zj_iload1 (n := 41) rfl dX10_load_40 ?_
    refine zj_sipushN (v := 698) (n := 44) rfl dX10_load_41 (by decide) ?_
    refine zj_icmpN_ge (n := 47) (tgt := 60) rfl dX10_load_44 (by decide) (by omega) (by omega) (fun c44 => ?_) (fun c44 => by omega)
    refine zj_aload0 (n := 61) rfl dX10_load_60 ?_
    refine zj_aload0 (n := 62) rfl dX10_load_61 ?_
    refine zj_getr (n := 65) (q := 120) rfl dX10_load_62 zf_X10_21 rfl (by decide) (by decide) rfl ?_
    refine zj_putnow (n := 68) rfl dX10_load_65 zp_X10_24 ?_
    have e118 : M2.1 118 = M1.1 118 := hF2 118 (by decide)
    refine zj_keep [true, false] ?_
    exact z_ld68 (M := (M2.1, M2.2.1, M2.2.2.1, 120)) ⟨hn, by dsimp only; rw [e118]; exact g18, fun j hj => ⟨(hB j hj).1, by dsimp only; rw [hF2 129 (by decide), gF 129 (by decide)]; exact (hB j hj).2⟩⟩ ⟨rfl, Or.inr rfl, hZ2⟩ (fun j hj => by dsimp only; rw [hF2 119 (by decide), gF 119 (by decide)]; exact hA.2.2 j hj) ⟨hU.1, by dsimp only; rw [e118, gj 27 (by decide)]; exact hU.2.1, fun i hi j hj => by dsimp only; rw [hF2 128 (by decide), gF 128 (by decide)]; exact hU.2.2 i hi j hj⟩ (by dsimp only; rw [e118]; exact g17) (by dsimp only; rw [e118]; exact g19) (by dsimp only; rw [e118]; exact g23) (by dsimp only; rw [e118]; exact g24) (by dsimp only; rw [e118]; exact g4) (by dsimp only; rw [e118]; exact g0) (fun M' ⟨f1, f2, f3, f4⟩ => h M' ⟨fun a h1 h2 h3 h4 => (f1 a h1 h2 h3 h4).trans ((hF2 a h3).trans (gF a h1)), f2.trans (by dsimp only; rw [hs2, gs]), f3.trans (by dsimp only; rw [hs2, gs]), fun j hj => (f4 j hj).trans (by dsimp only; rw [e118]; exact gj j (by omega))⟩)
