/-! THE REFERENCE, reads of its row. w: the row that it looks at; v: the state that the row holds -/
theorem zixn {n c : Nat} : (10 + 12 * nI n + nI c : Int32) = nI (10 + 12 * n + c) := by simp only [zl, pk_mul, nI_add]
theorem zixt {n c : Nat} : (202 + 11 * nI n + nI c : Int32) = nI (202 + 11 * n + c) := by simp only [zl, pk_mul, nI_add]
theorem zixg {n c : Nat} : (268 + 23 * nI n + nI c : Int32) = nI (268 + 23 * n + c) := by simp only [zl, pk_mul, nI_add]
theorem zRA.in {M : zM} {w : Nat} {v : zV} (hA : zRA M w v) {x : Int32} {j : Nat} (e : x = nI j) (h : j < 698) : vp_in x (zLen w) := by
  rw [hA.2.1.len]
  exact zin_at e h (by decide)
theorem zRA.at {M : zM} {w : Nat} {v : zV} (hA : zRA M w v) {x : Int32} {j : Nat} (e : x = nI j) (h : j < 698) : M.1 w x.toNatClampNeg = nI (v j) := by
  rw [zcl e (by omega)]
  exact hA.2.2 j h
theorem zthr_def : True := trivial
/-- which of three exceptions is told -/
def zthr (a b c : Bool) : Int32 := if a then (if b then (if c then 0 else 3) else 2) else 1
theorem jX10_thrown {Q : Option Value → zM → Prop} {X : String → zM → Prop} {M : zM} (h : Q (some (.int (M.1 118 0))) M) : zJ yX10_thrown cX10_thrown 1 (some .int) rX10_thrown Q X rX10_thrown.cells rX10_thrown.slots 0 (zEnt 1 [.ref 118]) [] M := by
  show zJ yX10_thrown cX10_thrown 1 (some .int) rX10_thrown Q X 0 0 0 [some (.ref 118)] [] M
  refine zj_aload0 (n := 1) rfl dX10_thrown_0 ?_
  refine zj_geti (n := 4) rfl dX10_thrown_1 zf_X10_3 rfl (by decide) (by decide) ?_
  exact zj_ireturn dX10_thrown_4 rfl rfl h
theorem jX10_in {x lo hi : Int64} {Q : Option Value → zM → Prop} {X : String → zM → Prop} {M : zM} (h : Q (some (.int (zb (decide (lo.toInt ≤ x.toInt ∧ x.toInt ≤ hi.toInt))))) M) : zJ yX10_in cX10_in 6 (some .boolean) rX10_in Q X rX10_in.cells rX10_in.slots 0 (zEnt 6 [.long x, .long lo, .long hi]) [] M := by
  show zJ yX10_in cX10_in 6 (some .boolean) rX10_in Q X 0 0 0 [some (.long x), none, some (.long lo), none, some (.long hi), none] [] M
  refine zj_lload0 (n := 1) rfl dX10_in_0 ?_
  refine zj_lload2 (n := 2) rfl dX10_in_1 ?_
  refine zj_lcmp (n := 3) rfl dX10_in_2 ?_
  refine zj_if_lt (n := 6) (tgt := 17) rfl dX10_in_3 (by decide) (fun c3 => ?_) (fun c3 => ?_)
  · refine zj_iconst_0 (n := 18) rfl dX10_in_17 ?_
    exact zj_ireturn dX10_in_18 rfl rfl (zQi h (by first | exact zb_dt (by simp only [lg_cmp_lt, lg_cmp_gt, Int64.lt_iff_toInt_lt] at *; omega) | exact zb_df (by simp only [lg_cmp_lt, lg_cmp_gt, Int64.lt_iff_toInt_lt] at *; omega)))
  · refine zj_lload0 (n := 7) rfl dX10_in_6 ?_
    refine zj_lload4 (n := 9) rfl dX10_in_7 ?_
    refine zj_lcmp (n := 10) rfl dX10_in_9 ?_
    refine zj_if_gt (n := 13) (tgt := 17) rfl dX10_in_10 (by decide) (fun c10 => ?_) (fun c10 => ?_)
    · refine zj_iconst_0 (n := 18) rfl dX10_in_17 ?_
      exact zj_ireturn dX10_in_18 rfl rfl (zQi h (by first | exact zb_dt (by simp only [lg_cmp_lt, lg_cmp_gt, Int64.lt_iff_toInt_lt] at *; omega) | exact zb_df (by simp only [lg_cmp_lt, lg_cmp_gt, Int64.lt_iff_toInt_lt] at *; omega)))
    · refine zj_iconst_1 (n := 14) rfl dX10_in_13 ?_
      refine zj_goto (tgt := 18) dX10_in_14 (by decide) ?_
      exact zj_ireturn dX10_in_18 rfl rfl (zQi h (by first | exact zb_dt (by simp only [lg_cmp_lt, lg_cmp_gt, Int64.lt_iff_toInt_lt] at *; omega) | exact zb_df (by simp only [lg_cmp_lt, lg_cmp_gt, Int64.lt_iff_toInt_lt] at *; omega)))
theorem zb_cases (b : Bool) : (zb b = 0 ∧ b = false) ∨ (zb b = 1 ∧ b = true) := by cases b <;> simp [zb]
theorem jX10_p3_ttt {Q : Option Value → zM → Prop} {X : String → zM → Prop} {M : zM} (h : Q (some (.int 1)) (zU M.1 118 0 0, M.2)) : zJ yX10_passes3 cX10_passes3 4 (some .boolean) rX10_passes3 Q X rX10_passes3.cells rX10_passes3.slots 0 (zEnt 4 [.ref 118, .int 1, .int 1, .int 1]) [] M := by
  show zJ yX10_passes3 cX10_passes3 4 (some .boolean) rX10_passes3 Q X 0 0 0 [some (.ref 118), some (.int 1), some (.int 1), some (.int 1)] [] M
  refine zj_aload0 (n := 1) rfl dX10_passes3_0 ?_
  refine zj_iload1 (n := 2) rfl dX10_passes3_1 ?_
  refine zj_if_ne (n := 5) (tgt := 9) rfl dX10_passes3_2 (by decide) (fun _ => ?_) (fun h => absurd h (by decide))
  refine zj_iload2 (n := 10) rfl dX10_passes3_9 ?_
  refine zj_if_ne (n := 13) (tgt := 17) rfl dX10_passes3_10 (by decide) (fun _ => ?_) (fun h => absurd h (by decide))
  refine zj_iload3 (n := 18) rfl dX10_passes3_17 ?_
  refine zj_if_ne (n := 21) (tgt := 25) rfl dX10_passes3_18 (by decide) (fun _ => ?_) (fun h => absurd h (by decide))
  refine zj_iconst_0 (n := 26) rfl dX10_passes3_25 ?_
  refine zj_puti (n := 29) rfl dX10_passes3_26 zp_X10_3 rfl (by decide) (by decide) ?_
  refine zj_aload0 (n := 30) rfl dX10_passes3_29 ?_
  refine zj_geti (n := 33) rfl dX10_passes3_30 zf_X10_3 rfl (by decide) (by decide) ?_
  refine zj_if_ne (n := 36) (tgt := 40) rfl dX10_passes3_33 (by decide) (fun c33 => ?_) (fun c33 => ?_)
  · refine zj_iconst_0 (n := 41) rfl dX10_passes3_40 ?_
    exact zj_ireturn dX10_passes3_41 rfl rfl (by first | exact h | (exfalso; simp [zU] at *))
  · refine zj_iconst_1 (n := 37) rfl dX10_passes3_36 ?_
    refine zj_goto (tgt := 41) dX10_passes3_37 (by decide) ?_
    exact zj_ireturn dX10_passes3_41 rfl rfl (by first | exact h | (exfalso; simp [zU] at *))
theorem jX10_p3_ttf {Q : Option Value → zM → Prop} {X : String → zM → Prop} {M : zM} (h : Q (some (.int 0)) (zU M.1 118 0 3, M.2)) : zJ yX10_passes3 cX10_passes3 4 (some .boolean) rX10_passes3 Q X rX10_passes3.cells rX10_passes3.slots 0 (zEnt 4 [.ref 118, .int 1, .int 1, .int 0]) [] M := by
  show zJ yX10_passes3 cX10_passes3 4 (some .boolean) rX10_passes3 Q X 0 0 0 [some (.ref 118), some (.int 1), some (.int 1), some (.int 0)] [] M
  refine zj_aload0 (n := 1) rfl dX10_passes3_0 ?_
  refine zj_iload1 (n := 2) rfl dX10_passes3_1 ?_
  refine zj_if_ne (n := 5) (tgt := 9) rfl dX10_passes3_2 (by decide) (fun _ => ?_) (fun h => absurd h (by decide))
  refine zj_iload2 (n := 10) rfl dX10_passes3_9 ?_
  refine zj_if_ne (n := 13) (tgt := 17) rfl dX10_passes3_10 (by decide) (fun _ => ?_) (fun h => absurd h (by decide))
  refine zj_iload3 (n := 18) rfl dX10_passes3_17 ?_
  refine zj_if_ne (n := 21) (tgt := 25) rfl dX10_passes3_18 (by decide) (fun h => absurd h (by decide)) (fun _ => ?_)
  refine zj_iconst_3 (n := 22) rfl dX10_passes3_21 ?_
  refine zj_goto (tgt := 26) dX10_passes3_22 (by decide) ?_
  refine zj_puti (n := 29) rfl dX10_passes3_26 zp_X10_3 rfl (by decide) (by decide) ?_
  refine zj_aload0 (n := 30) rfl dX10_passes3_29 ?_
  refine zj_geti (n := 33) rfl dX10_passes3_30 zf_X10_3 rfl (by decide) (by decide) ?_
  refine zj_if_ne (n := 36) (tgt := 40) rfl dX10_passes3_33 (by decide) (fun c33 => ?_) (fun c33 => ?_)
  · refine zj_iconst_0 (n := 41) rfl dX10_passes3_40 ?_
    exact zj_ireturn dX10_passes3_41 rfl rfl (by first | exact h | (exfalso; simp [zU] at *))
  · refine zj_iconst_1 (n := 37) rfl dX10_passes3_36 ?_
    refine zj_goto (tgt := 41) dX10_passes3_37 (by decide) ?_
    exact zj_ireturn dX10_passes3_41 rfl rfl (by first | exact h | (exfalso; simp [zU] at *))
theorem jX10_p3_tft {Q : Option Value → zM → Prop} {X : String → zM → Prop} {M : zM} (h : Q (some (.int 0)) (zU M.1 118 0 2, M.2)) : zJ yX10_passes3 cX10_passes3 4 (some .boolean) rX10_passes3 Q X rX10_passes3.cells rX10_passes3.slots 0 (zEnt 4 [.ref 118, .int 1, .int 0, .int 1]) [] M := by
  show zJ yX10_passes3 cX10_passes3 4 (some .boolean) rX10_passes3 Q X 0 0 0 [some (.ref 118), some (.int 1), some (.int 0), some (.int 1)] [] M
  refine zj_aload0 (n := 1) rfl dX10_passes3_0 ?_
  refine zj_iload1 (n := 2) rfl dX10_passes3_1 ?_
  refine zj_if_ne (n := 5) (tgt := 9) rfl dX10_passes3_2 (by decide) (fun _ => ?_) (fun h => absurd h (by decide))
  refine zj_iload2 (n := 10) rfl dX10_passes3_9 ?_
  refine zj_if_ne (n := 13) (tgt := 17) rfl dX10_passes3_10 (by decide) (fun h => absurd h (by decide)) (fun _ => ?_)
  refine zj_iconst_2 (n := 14) rfl dX10_passes3_13 ?_
  refine zj_goto (tgt := 26) dX10_passes3_14 (by decide) ?_
  refine zj_puti (n := 29) rfl dX10_passes3_26 zp_X10_3 rfl (by decide) (by decide) ?_
  refine zj_aload0 (n := 30) rfl dX10_passes3_29 ?_
  refine zj_geti (n := 33) rfl dX10_passes3_30 zf_X10_3 rfl (by decide) (by decide) ?_
  refine zj_if_ne (n := 36) (tgt := 40) rfl dX10_passes3_33 (by decide) (fun c33 => ?_) (fun c33 => ?_)
  · refine zj_iconst_0 (n := 41) rfl dX10_passes3_40 ?_
    exact zj_ireturn dX10_passes3_41 rfl rfl (by first | exact h | (exfalso; simp [zU] at *))
  · refine zj_iconst_1 (n := 37) rfl dX10_passes3_36 ?_
    refine zj_goto (tgt := 41) dX10_passes3_37 (by decide) ?_
    exact zj_ireturn dX10_passes3_41 rfl rfl (by first | exact h | (exfalso; simp [zU] at *))
theorem jX10_p3_tff {Q : Option Value → zM → Prop} {X : String → zM → Prop} {M : zM} (h : Q (some (.int 0)) (zU M.1 118 0 2, M.2)) : zJ yX10_passes3 cX10_passes3 4 (some .boolean) rX10_passes3 Q X rX10_passes3.cells rX10_passes3.slots 0 (zEnt 4 [.ref 118, .int 1, .int 0, .int 0]) [] M := by
  show zJ yX10_passes3 cX10_passes3 4 (some .boolean) rX10_passes3 Q X 0 0 0 [some (.ref 118), some (.int 1), some (.int 0), some (.int 0)] [] M
  refine zj_aload0 (n := 1) rfl dX10_passes3_0 ?_
  refine zj_iload1 (n := 2) rfl dX10_passes3_1 ?_
  refine zj_if_ne (n := 5) (tgt := 9) rfl dX10_passes3_2 (by decide) (fun _ => ?_) (fun h => absurd h (by decide))
  refine zj_iload2 (n := 10) rfl dX10_passes3_9 ?_
  refine zj_if_ne (n := 13) (tgt := 17) rfl dX10_passes3_10 (by decide) (fun h => absurd h (by decide)) (fun _ => ?_)
  refine zj_iconst_2 (n := 14) rfl dX10_passes3_13 ?_
  refine zj_goto (tgt := 26) dX10_passes3_14 (by decide) ?_
  refine zj_puti (n := 29) rfl dX10_passes3_26 zp_X10_3 rfl (by decide) (by decide) ?_
  refine zj_aload0 (n := 30) rfl dX10_passes3_29 ?_
  refine zj_geti (n := 33) rfl dX10_passes3_30 zf_X10_3 rfl (by decide) (by decide) ?_
  refine zj_if_ne (n := 36) (tgt := 40) rfl dX10_passes3_33 (by decide) (fun c33 => ?_) (fun c33 => ?_)
  · refine zj_iconst_0 (n := 41) rfl dX10_passes3_40 ?_
    exact zj_ireturn dX10_passes3_41 rfl rfl (by first | exact h | (exfalso; simp [zU] at *))
  · refine zj_iconst_1 (n := 37) rfl dX10_passes3_36 ?_
    refine zj_goto (tgt := 41) dX10_passes3_37 (by decide) ?_
    exact zj_ireturn dX10_passes3_41 rfl rfl (by first | exact h | (exfalso; simp [zU] at *))
theorem jX10_p3_ftt {Q : Option Value → zM → Prop} {X : String → zM → Prop} {M : zM} (h : Q (some (.int 0)) (zU M.1 118 0 1, M.2)) : zJ yX10_passes3 cX10_passes3 4 (some .boolean) rX10_passes3 Q X rX10_passes3.cells rX10_passes3.slots 0 (zEnt 4 [.ref 118, .int 0, .int 1, .int 1]) [] M := by
  show zJ yX10_passes3 cX10_passes3 4 (some .boolean) rX10_passes3 Q X 0 0 0 [some (.ref 118), some (.int 0), some (.int 1), some (.int 1)] [] M
  refine zj_aload0 (n := 1) rfl dX10_passes3_0 ?_
  refine zj_iload1 (n := 2) rfl dX10_passes3_1 ?_
  refine zj_if_ne (n := 5) (tgt := 9) rfl dX10_passes3_2 (by decide) (fun h => absurd h (by decide)) (fun _ => ?_)
  refine zj_iconst_1 (n := 6) rfl dX10_passes3_5 ?_
  refine zj_goto (tgt := 26) dX10_passes3_6 (by decide) ?_
  refine zj_puti (n := 29) rfl dX10_passes3_26 zp_X10_3 rfl (by decide) (by decide) ?_
  refine zj_aload0 (n := 30) rfl dX10_passes3_29 ?_
  refine zj_geti (n := 33) rfl dX10_passes3_30 zf_X10_3 rfl (by decide) (by decide) ?_
  refine zj_if_ne (n := 36) (tgt := 40) rfl dX10_passes3_33 (by decide) (fun c33 => ?_) (fun c33 => ?_)
  · refine zj_iconst_0 (n := 41) rfl dX10_passes3_40 ?_
    exact zj_ireturn dX10_passes3_41 rfl rfl (by first | exact h | (exfalso; simp [zU] at *))
  · refine zj_iconst_1 (n := 37) rfl dX10_passes3_36 ?_
    refine zj_goto (tgt := 41) dX10_passes3_37 (by decide) ?_
    exact zj_ireturn dX10_passes3_41 rfl rfl (by first | exact h | (exfalso; simp [zU] at *))
theorem jX10_p3_ftf {Q : Option Value → zM → Prop} {X : String → zM → Prop} {M : zM} (h : Q (some (.int 0)) (zU M.1 118 0 1, M.2)) : zJ yX10_passes3 cX10_passes3 4 (some .boolean) rX10_passes3 Q X rX10_passes3.cells rX10_passes3.slots 0 (zEnt 4 [.ref 118, .int 0, .int 1, .int 0]) [] M := by
  show zJ yX10_passes3 cX10_passes3 4 (some .boolean) rX10_passes3 Q X 0 0 0 [some (.ref 118), some (.int 0), some (.int 1), some (.int 0)] [] M
  refine zj_aload0 (n := 1) rfl dX10_passes3_0 ?_
  refine zj_iload1 (n := 2) rfl dX10_passes3_1 ?_
  refine zj_if_ne (n := 5) (tgt := 9) rfl dX10_passes3_2 (by decide) (fun h => absurd h (by decide)) (fun _ => ?_)
  refine zj_iconst_1 (n := 6) rfl dX10_passes3_5 ?_
  refine zj_goto (tgt := 26) dX10_passes3_6 (by decide) ?_
  refine zj_puti (n := 29) rfl dX10_passes3_26 zp_X10_3 rfl (by decide) (by decide) ?_
  refine zj_aload0 (n := 30) rfl dX10_passes3_29 ?_
  refine zj_geti (n := 33) rfl dX10_passes3_30 zf_X10_3 rfl (by decide) (by decide) ?_
  refine zj_if_ne (n := 36) (tgt := 40) rfl dX10_passes3_33 (by decide) (fun c33 => ?_) (fun c33 => ?_)
  · refine zj_iconst_0 (n := 41) rfl dX10_passes3_40 ?_
    exact zj_ireturn dX10_passes3_41 rfl rfl (by first | exact h | (exfalso; simp [zU] at *))
  · refine zj_iconst_1 (n := 37) rfl dX10_passes3_36 ?_
    refine zj_goto (tgt := 41) dX10_passes3_37 (by decide) ?_
    exact zj_ireturn dX10_passes3_41 rfl rfl (by first | exact h | (exfalso; simp [zU] at *))
theorem jX10_p3_fft {Q : Option Value → zM → Prop} {X : String → zM → Prop} {M : zM} (h : Q (some (.int 0)) (zU M.1 118 0 1, M.2)) : zJ yX10_passes3 cX10_passes3 4 (some .boolean) rX10_passes3 Q X rX10_passes3.cells rX10_passes3.slots 0 (zEnt 4 [.ref 118, .int 0, .int 0, .int 1]) [] M := by
  show zJ yX10_passes3 cX10_passes3 4 (some .boolean) rX10_passes3 Q X 0 0 0 [some (.ref 118), some (.int 0), some (.int 0), some (.int 1)] [] M
  refine zj_aload0 (n := 1) rfl dX10_passes3_0 ?_
  refine zj_iload1 (n := 2) rfl dX10_passes3_1 ?_
  refine zj_if_ne (n := 5) (tgt := 9) rfl dX10_passes3_2 (by decide) (fun h => absurd h (by decide)) (fun _ => ?_)
  refine zj_iconst_1 (n := 6) rfl dX10_passes3_5 ?_
  refine zj_goto (tgt := 26) dX10_passes3_6 (by decide) ?_
  refine zj_puti (n := 29) rfl dX10_passes3_26 zp_X10_3 rfl (by decide) (by decide) ?_
  refine zj_aload0 (n := 30) rfl dX10_passes3_29 ?_
  refine zj_geti (n := 33) rfl dX10_passes3_30 zf_X10_3 rfl (by decide) (by decide) ?_
  refine zj_if_ne (n := 36) (tgt := 40) rfl dX10_passes3_33 (by decide) (fun c33 => ?_) (fun c33 => ?_)
  · refine zj_iconst_0 (n := 41) rfl dX10_passes3_40 ?_
    exact zj_ireturn dX10_passes3_41 rfl rfl (by first | exact h | (exfalso; simp [zU] at *))
  · refine zj_iconst_1 (n := 37) rfl dX10_passes3_36 ?_
    refine zj_goto (tgt := 41) dX10_passes3_37 (by decide) ?_
    exact zj_ireturn dX10_passes3_41 rfl rfl (by first | exact h | (exfalso; simp [zU] at *))
theorem jX10_p3_fff {Q : Option Value → zM → Prop} {X : String → zM → Prop} {M : zM} (h : Q (some (.int 0)) (zU M.1 118 0 1, M.2)) : zJ yX10_passes3 cX10_passes3 4 (some .boolean) rX10_passes3 Q X rX10_passes3.cells rX10_passes3.slots 0 (zEnt 4 [.ref 118, .int 0, .int 0, .int 0]) [] M := by
  show zJ yX10_passes3 cX10_passes3 4 (some .boolean) rX10_passes3 Q X 0 0 0 [some (.ref 118), some (.int 0), some (.int 0), some (.int 0)] [] M
  refine zj_aload0 (n := 1) rfl dX10_passes3_0 ?_
  refine zj_iload1 (n := 2) rfl dX10_passes3_1 ?_
  refine zj_if_ne (n := 5) (tgt := 9) rfl dX10_passes3_2 (by decide) (fun h => absurd h (by decide)) (fun _ => ?_)
  refine zj_iconst_1 (n := 6) rfl dX10_passes3_5 ?_
  refine zj_goto (tgt := 26) dX10_passes3_6 (by decide) ?_
  refine zj_puti (n := 29) rfl dX10_passes3_26 zp_X10_3 rfl (by decide) (by decide) ?_
  refine zj_aload0 (n := 30) rfl dX10_passes3_29 ?_
  refine zj_geti (n := 33) rfl dX10_passes3_30 zf_X10_3 rfl (by decide) (by decide) ?_
  refine zj_if_ne (n := 36) (tgt := 40) rfl dX10_passes3_33 (by decide) (fun c33 => ?_) (fun c33 => ?_)
  · refine zj_iconst_0 (n := 41) rfl dX10_passes3_40 ?_
    exact zj_ireturn dX10_passes3_41 rfl rfl (by first | exact h | (exfalso; simp [zU] at *))
  · refine zj_iconst_1 (n := 37) rfl dX10_passes3_36 ?_
    refine zj_goto (tgt := 41) dX10_passes3_37 (by decide) ?_
    exact zj_ireturn dX10_passes3_41 rfl rfl (by first | exact h | (exfalso; simp [zU] at *))
theorem jX10_passes3 {p q r : Bool} {Q : Option Value → zM → Prop} {X : String → zM → Prop} {M : zM} (h : Q (some (.int (zb (p && q && r)))) (zU M.1 118 0 (zthr p q r), M.2)) : zJ yX10_passes3 cX10_passes3 4 (some .boolean) rX10_passes3 Q X rX10_passes3.cells rX10_passes3.slots 0 (zEnt 4 [.ref 118, .int (zb p), .int (zb q), .int (zb r)]) [] M := by
  cases p <;> cases q <;> cases r
  · exact jX10_p3_fff h
  · exact jX10_p3_fft h
  · exact jX10_p3_ftf h
  · exact jX10_p3_ftt h
  · exact jX10_p3_tff h
  · exact jX10_p3_tft h
  · exact jX10_p3_ttf h
  · exact jX10_p3_ttt h
theorem jX10_passes3b {p q : Bool} {Q : Option Value → zM → Prop} {X : String → zM → Prop} {M : zM} (h : Q (some (.int (zb (p && q)))) (zU M.1 118 0 (zthr p q true), M.2)) : zJ yX10_passes3 cX10_passes3 4 (some .boolean) rX10_passes3 Q X rX10_passes3.cells rX10_passes3.slots 0 (zEnt 4 [.ref 118, .int (zb p), .int (zb q), .int 1]) [] M := jX10_passes3 (r := true) (by rw [Bool.and_true]; exact h)
theorem jX10_passes3c {p : Bool} {Q : Option Value → zM → Prop} {X : String → zM → Prop} {M : zM} (h : Q (some (.int (zb p))) (zU M.1 118 0 (zthr p true true), M.2)) : zJ yX10_passes3 cX10_passes3 4 (some .boolean) rX10_passes3 Q X rX10_passes3.cells rX10_passes3.slots 0 (zEnt 4 [.ref 118, .int (zb p), .int 1, .int 1]) [] M := jX10_passes3 (q := true) (r := true) (by rw [Bool.and_true, Bool.and_true]; exact h)
theorem jX10_passes2 {p q : Bool} {Q : Option Value → zM → Prop} {X : String → zM → Prop} {M : zM} (h : Q (some (.int (zb (p && q)))) (zU M.1 118 0 (zthr p q true), M.2)) : zJ yX10_passes2 cX10_passes2 3 (some .boolean) rX10_passes2 Q X rX10_passes2.cells rX10_passes2.slots 0 (zEnt 3 [.ref 118, .int (zb p), .int (zb q)]) [] M := by
  show zJ yX10_passes2 cX10_passes2 3 (some .boolean) rX10_passes2 Q X 0 0 0 [some (.ref 118), some (.int (zb p)), some (.int (zb q))] [] M
  refine zj_aload0 (n := 1) rfl dX10_passes2_0 ?_
  refine zj_iload1 (n := 2) rfl dX10_passes2_1 ?_
  refine zj_iload2 (n := 3) rfl dX10_passes2_2 ?_
  refine zj_iconst_1 (n := 4) rfl dX10_passes2_3 ?_
  refine zj_callV3 (n := 7) (a' := 0) (b' := 0) rfl dX10_passes2_4 zm_X10_7 (by decide) (by decide) rfl (Nat.le_of_ble_eq_true rfl) (Nat.le_of_ble_eq_true rfl) (Nat.le_of_ble_eq_true rfl) (Nat.le_of_ble_eq_true rfl) (jX10_passes3b ?_)
  exact zj_ireturn dX10_passes2_7 rfl (zb_nar _) h
theorem jX10_passes {p : Bool} {Q : Option Value → zM → Prop} {X : String → zM → Prop} {M : zM} (h : Q (some (.int (zb p))) (zU M.1 118 0 (zthr p true true), M.2)) : zJ yX10_passes cX10_passes 2 (some .boolean) rX10_passes Q X rX10_passes.cells rX10_passes.slots 0 (zEnt 2 [.ref 118, .int (zb p)]) [] M := by
  show zJ yX10_passes cX10_passes 2 (some .boolean) rX10_passes Q X 0 0 0 [some (.ref 118), some (.int (zb p))] [] M
  refine zj_aload0 (n := 1) rfl dX10_passes_0 ?_
  refine zj_iload1 (n := 2) rfl dX10_passes_1 ?_
  refine zj_iconst_1 (n := 3) rfl dX10_passes_2 ?_
  refine zj_iconst_1 (n := 4) rfl dX10_passes_3 ?_
  refine zj_callV3 (n := 7) (a' := 0) (b' := 0) rfl dX10_passes_4 zm_X10_7 (by decide) (by decide) rfl (Nat.le_of_ble_eq_true rfl) (Nat.le_of_ble_eq_true rfl) (Nat.le_of_ble_eq_true rfl) (Nat.le_of_ble_eq_true rfl) (jX10_passes3c ?_)
  exact zj_ireturn dX10_passes_7 rfl (zb_nar _) h
theorem jX10_hasBit {d n : Nat} {Q : Option Value → zM → Prop} {X : String → zM → Prop} {M : zM} (hd : d < 2 ^ 31) (hn : n < 32) (h : Q (some (.int (zb (d.testBit n)))) M) : zJ yX10_hasBit cX10_hasBit 2 (some .boolean) rX10_hasBit Q X rX10_hasBit.cells rX10_hasBit.slots 0 (zEnt 2 [.int (nI d), .int (nI n)]) [] M := by
  show zJ yX10_hasBit cX10_hasBit 2 (some .boolean) rX10_hasBit Q X 0 0 0 [some (.int (nI d)), some (.int (nI n))] [] M
  refine zj_iload0 (n := 1) rfl dX10_hasBit_0 ?_
  refine zj_iload1 (n := 2) rfl dX10_hasBit_1 ?_
  refine zj_ishr (n := 3) rfl dX10_hasBit_2 ?_
  refine zj_iconst_1 (n := 4) rfl dX10_hasBit_3 ?_
  refine zj_iand (n := 5) rfl dX10_hasBit_4 ?_
  refine zj_iconst_1 (n := 6) rfl dX10_hasBit_5 ?_
  refine zj_icmp_ne (n := 9) (tgt := 13) rfl dX10_hasBit_6 (by decide) (fun c6 => ?_) (fun c6 => ?_)
  · refine zj_iconst_0 (n := 14) rfl dX10_hasBit_13 ?_
    exact zj_ireturn dX10_hasBit_14 rfl rfl (zQi h (by rw [zbit hd hn] at *; first | exact zb_tt (zb_eq1.mp (by assumption)) | exact zb_ff (by simpa [zb_eq1] using (by assumption : ¬ zb (d.testBit n) = 1))))
  · refine zj_iconst_1 (n := 10) rfl dX10_hasBit_9 ?_
    refine zj_goto (tgt := 14) dX10_hasBit_10 (by decide) ?_
    exact zj_ireturn dX10_hasBit_14 rfl rfl (zQi h (by rw [zbit hd hn] at *; first | exact zb_tt (zb_eq1.mp (by assumption)) | exact zb_ff (by simpa [zb_eq1] using (by assumption : ¬ zb (d.testBit n) = 1))))
theorem jX10_nodeValue {w : Nat} {v : zV} {n c : Nat} {Q : Option Value → zM → Prop} {X : String → zM → Prop} {M : zM} (hA : zRA M w v) (hb : 10 + 12 * n + c < 698) (h : Q (some (.int (nI (v (10 + 12 * n + c))))) M) : zJ yX10_nodeValue cX10_nodeValue 3 (some .int) rX10_nodeValue Q X rX10_nodeValue.cells rX10_nodeValue.slots 0 (zEnt 3 [.ref 118, .int (nI n), .int (nI c)]) [] M := by
  show zJ yX10_nodeValue cX10_nodeValue 3 (some .int) rX10_nodeValue Q X 0 0 0 [some (.ref 118), some (.int (nI n)), some (.int (nI c))] [] M
  refine zj_aload0 (n := 1) rfl dX10_nodeValue_0 ?_
  refine zj_getr (n := 4) (q := w) rfl dX10_nodeValue_1 zf_X10_24 rfl (by decide) (by decide) hA.now ?_
  refine zj_bipush (v := 10) (n := 6) rfl dX10_nodeValue_4 (by decide) ?_
  refine zj_bipush (v := 12) (n := 8) rfl dX10_nodeValue_6 (by decide) ?_
  refine zj_iload1 (n := 9) rfl dX10_nodeValue_8 ?_
  refine zj_imul (n := 10) rfl dX10_nodeValue_9 ?_
  refine zj_iadd (n := 11) rfl dX10_nodeValue_10 ?_
  refine zj_iload2 (n := 12) rfl dX10_nodeValue_11 ?_
  refine zj_iadd (n := 13) rfl dX10_nodeValue_12 ?_
  refine zj_iaload (n := 14) rfl dX10_nodeValue_13 hA.2.1.lt hA.2.1.ty (hA.in zixn hb) ?_
  exact zj_ireturn dX10_nodeValue_14 rfl rfl (zQi h (hA.at zixn hb).symm)
theorem jX10_groupValue {w : Nat} {v : zV} {n c : Nat} {Q : Option Value → zM → Prop} {X : String → zM → Prop} {M : zM} (hA : zRA M w v) (hb : 268 + 23 * n + c < 698) (h : Q (some (.int (nI (v (268 + 23 * n + c))))) M) : zJ yX10_groupValue cX10_groupValue 3 (some .int) rX10_groupValue Q X rX10_groupValue.cells rX10_groupValue.slots 0 (zEnt 3 [.ref 118, .int (nI n), .int (nI c)]) [] M := by
  show zJ yX10_groupValue cX10_groupValue 3 (some .int) rX10_groupValue Q X 0 0 0 [some (.ref 118), some (.int (nI n)), some (.int (nI c))] [] M
  refine zj_aload0 (n := 1) rfl dX10_groupValue_0 ?_
  refine zj_getr (n := 4) (q := w) rfl dX10_groupValue_1 zf_X10_24 rfl (by decide) (by decide) hA.now ?_
  refine zj_sipush (v := 268) (n := 7) rfl dX10_groupValue_4 (by decide) ?_
  refine zj_bipush (v := 23) (n := 9) rfl dX10_groupValue_7 (by decide) ?_
  refine zj_iload1 (n := 10) rfl dX10_groupValue_9 ?_
  refine zj_imul (n := 11) rfl dX10_groupValue_10 ?_
  refine zj_iadd (n := 12) rfl dX10_groupValue_11 ?_
  refine zj_iload2 (n := 13) rfl dX10_groupValue_12 ?_
  refine zj_iadd (n := 14) rfl dX10_groupValue_13 ?_
  refine zj_iaload (n := 15) rfl dX10_groupValue_14 hA.2.1.lt hA.2.1.ty (hA.in zixg hb) ?_
  exact zj_ireturn dX10_groupValue_15 rfl rfl (zQi h (hA.at zixg hb).symm)
theorem jX10_tenantValue {w : Nat} {v : zV} {n c : Nat} {Q : Option Value → zM → Prop} {X : String → zM → Prop} {M : zM} (hA : zRA M w v) (hb : 202 + 11 * n + c < 698) (h : Q (some (.int (nI (v (202 + 11 * n + c))))) M) : zJ yX10_tenantValue cX10_tenantValue 3 (some .int) rX10_tenantValue Q X rX10_tenantValue.cells rX10_tenantValue.slots 0 (zEnt 3 [.ref 118, .int (nI n), .int (nI c)]) [] M := by
  show zJ yX10_tenantValue cX10_tenantValue 3 (some .int) rX10_tenantValue Q X 0 0 0 [some (.ref 118), some (.int (nI n)), some (.int (nI c))] [] M
  refine zj_aload0 (n := 1) rfl dX10_tenantValue_0 ?_
  refine zj_getr (n := 4) (q := w) rfl dX10_tenantValue_1 zf_X10_24 rfl (by decide) (by decide) hA.now ?_
  refine zj_sipush (v := 202) (n := 7) rfl dX10_tenantValue_4 (by decide) ?_
  refine zj_bipush (v := 11) (n := 9) rfl dX10_tenantValue_7 (by decide) ?_
  refine zj_iload1 (n := 10) rfl dX10_tenantValue_9 ?_
  refine zj_imul (n := 11) rfl dX10_tenantValue_10 ?_
  refine zj_iadd (n := 12) rfl dX10_tenantValue_11 ?_
  refine zj_iload2 (n := 13) rfl dX10_tenantValue_12 ?_
  refine zj_iadd (n := 14) rfl dX10_tenantValue_13 ?_
  refine zj_iaload (n := 15) rfl dX10_tenantValue_14 hA.2.1.lt hA.2.1.ty (hA.in zixt hb) ?_
  exact zj_ireturn dX10_tenantValue_15 rfl rfl (zQi h (hA.at zixt hb).symm)
theorem jX10_shardsOf {w : Nat} {v : zV} {g : Nat} {Q : Option Value → zM → Prop} {X : String → zM → Prop} {M : zM} (hA : zRA M w v) (hg : g < 10) (h : Q (some (.int (nI (vsh v g)))) M) : zJ yX10_shardsOf cX10_shardsOf 2 (some .int) rX10_shardsOf Q X rX10_shardsOf.cells rX10_shardsOf.slots 0 (zEnt 2 [.ref 118, .int (nI g)]) [] M := by
  show zJ yX10_shardsOf cX10_shardsOf 2 (some .int) rX10_shardsOf Q X 0 0 0 [some (.ref 118), some (.int (nI g))] [] M
  refine zj_aload0 (n := 1) rfl dX10_shardsOf_0 ?_
  refine zj_iload1 (n := 2) rfl dX10_shardsOf_1 ?_
  refine zj_iconst_2 (n := 3) rfl dX10_shardsOf_2 ?_
  refine zj_callV2 (n := 6) (a' := 0) (b' := 0) rfl dX10_shardsOf_3 zm_X10_66 (by decide) (by decide) rfl (Nat.le_of_ble_eq_true rfl) (Nat.le_of_ble_eq_true rfl) (Nat.le_of_ble_eq_true rfl) (Nat.le_of_ble_eq_true rfl) (jX10_groupValue (c := 2) hA (by omega) ?_)
  refine zj_aload0 (n := 7) rfl dX10_shardsOf_6 ?_
  refine zj_iload1 (n := 8) rfl dX10_shardsOf_7 ?_
  refine zj_iconst_3 (n := 9) rfl dX10_shardsOf_8 ?_
  refine zj_callV2 (n := 12) (a' := 0) (b' := 0) rfl dX10_shardsOf_9 zm_X10_66 (by decide) (by decide) rfl (Nat.le_of_ble_eq_true rfl) (Nat.le_of_ble_eq_true rfl) (Nat.le_of_ble_eq_true rfl) (Nat.le_of_ble_eq_true rfl) (jX10_groupValue (c := 3) hA (by omega) ?_)
  refine zj_iadd (n := 13) rfl dX10_shardsOf_12 ?_
  exact zj_ireturn dX10_shardsOf_13 rfl rfl (zQi h (nI_add _ _).symm)
theorem jX10_holder {w : Nat} {v : zV} {g s : Nat} {Q : Option Value → zM → Prop} {X : String → zM → Prop} {M : zM} (hA : zRA M w v) (hg : g < 10) (hs : s < 16) (h : Q (some (.int (nI (hol v g s)))) M) : zJ yX10_holder cX10_holder 3 (some .int) rX10_holder Q X rX10_holder.cells rX10_holder.slots 0 (zEnt 3 [.ref 118, .int (nI g), .int (nI s)]) [] M := by
  show zJ yX10_holder cX10_holder 3 (some .int) rX10_holder Q X 0 0 0 [some (.ref 118), some (.int (nI g)), some (.int (nI s))] [] M
  refine zj_aload0 (n := 1) rfl dX10_holder_0 ?_
  refine zj_iload1 (n := 2) rfl dX10_holder_1 ?_
  refine zj_bipush (v := 7) (n := 4) rfl dX10_holder_2 (by decide) ?_
  refine zj_iload2 (n := 5) rfl dX10_holder_4 ?_
  refine zj_iadd (n := 6) rfl dX10_holder_5 ?_
  refine zj_eq rfl (st' := .int (nI (7 + s)) :: .int (nI g) :: .ref 118 :: []) (by simp only [zl, nI_add]) rfl ?_
  refine zj_callV2 (n := 9) (a' := 0) (b' := 0) rfl dX10_holder_6 zm_X10_66 (by decide) (by decide) rfl (Nat.le_of_ble_eq_true rfl) (Nat.le_of_ble_eq_true rfl) (Nat.le_of_ble_eq_true rfl) (Nat.le_of_ble_eq_true rfl) (jX10_groupValue (c := 7 + s) hA (by omega) ?_)
  exact zj_ireturn dX10_holder_9 rfl rfl h
