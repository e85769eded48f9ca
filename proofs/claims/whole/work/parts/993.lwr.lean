/-! THE LAW: its wrappers -/
theorem zHl_mk {hh : List (Nat × Nat × Nat × Nat)} {y : MethodName} {cc : ByteArray} {nL : Nat} {ret : Option FieldType} {R : Room} {Q : Option Value → zM → Prop} {X : String → zM → Prop} {a b pc : Nat} {E : String} {M : zM} (pre suf : List (Nat × Nat × Nat × Nat)) (x : Nat × Nat × Nat × Nat) (i len : Nat) (h1 : hh = pre ++ x :: suf) (h2 : E ∈ zXn) (h3 : ∀ z ∈ pre, z.2.2.2 ≠ 0 ∧ ∃ N, N ∈ zXn ∧ E ≠ N ∧ Cond.classLink y.cls z.2.2.2 N ∈ zTB) (h4 : covers ⟨x.1, x.2.1, x.2.2.1, x.2.2.2⟩ pc = true) (h5 : x.2.2.2 ≠ 0) (h6 : Cond.classLink y.cls x.2.2.2 E ∈ zTB) (h7 : Cond.castable E E ∈ zNl)
    (h8 : (∃ k : Fin 4, k.val = i ∧ decode cc x.2.2.1 = .ok (.astore_n k, 1) ∧ len = 1) ∨ (decode cc x.2.2.1 = .ok (.astore i, 2) ∧ len = 2)) (h9 : i < nL) (h10 : zJG (zGH hh) y cc nL ret R Q X a b (x.2.2.1 + len) [] [] M) : zHl hh y cc nL ret R Q X a b pc E M := ⟨pre, suf, x, i, len, h1, h2, h3, h4, h5, h6, h7, h8, h9, h10⟩
theorem zq_undo1 {un : Nat} (q : (a_undo un).1 = 1) : un = 0 := by
  by_cases w : un = 0
  · exact w
  · unfold a_undo at q; rw [if_neg w] at q; cases q
theorem zq_undo0 {un : Nat} (q : (a_undo un).1 = 0) : ¬ un = 0 := fun w => by unfold a_undo at q; rw [if_pos w] at q; cases q
theorem zq_app1 {n : Nat} (q : (a_append n).1 = 1) : ¬ n + 20 ≤ 1400 := fun w => by unfold a_append at q; rw [if_pos w] at q; cases q
theorem zq_app0 {n : Nat} (q : (a_append n).1 = 0) : n + 20 ≤ 1400 := by
  by_cases w : n + 20 ≤ 1400
  · exact w
  · unfold a_append at q; rw [if_neg w] at q; cases q
theorem zq_tr1 {n : Nat} {x : Int32} (q : (a_trunc n x).1 = 1) : ¬ zin x (n + 1) = true := fun w => by unfold a_trunc at q; rw [if_pos w] at q; cases q
theorem zq_tr0 {n : Nat} {x : Int32} (q : (a_trunc n x).1 = 0) : zin x (n + 1) = true := by
  by_cases w : zin x (n + 1) = true
  · exact w
  · unfold a_trunc at q; rw [if_neg w] at q; cases q
theorem zq_fi1 {v : zV} {n : Nat} {B : Nat → Nat} {x : Int32} (q : (a_find v n B x).1 = 1) : ¬ zin x 3 = true := fun w => by unfold a_find at q; rw [if_pos w] at q; cases q
theorem zq_fi0 {v : zV} {n : Nat} {B : Nat → Nat} {x : Int32} (q : (a_find v n B x).1 = 0) : zin x 3 = true := by
  by_cases w : zin x 3 = true
  · exact w
  · unfold a_find at q; rw [if_neg w] at q; cases q
theorem zq_bids {v : zV} {x : Int32} : ∃ b, (a_bids v x).2 = zb b := by
  unfold a_bids
  split
  · exact ⟨_, rfl⟩
  · exact ⟨false, rfl⟩
theorem zj_callVH0 {y : MethodName} {cc : ByteArray} {nL : Nat} {ret : Option FieldType} {R : Room} {Q : Option Value → zM → Prop} {X : String → zM → Prop} {a b pc n : Nat} {l : List (Option Value)} {st : List Value} {M : zM} {hh : List (Nat × Nat × Nat × Nat)} {y' : MethodName} {cc' : ByteArray} {nL' idx k a' b' : Nat} {ret' : Option FieldType} {R' : Room} (hn : pc + 3 = n) (hd : decode cc pc = .ok (.invokevirtual idx, 3)) (S : zSv y.cls idx y' cc' nL' ret' 0) (hR : R'.frames + 1 ≤ R.frames ∧ 8 + (nL' + 11) + R'.locals ≤ R.locals) (hk : k < 133) (hcl : (vwCl[zTy k]?).map (fun q => q.1) = some y'.cls) (hst : zSum st ≤ 8) (ha9 : R'.cells + a' ≤ a) (hb9 : R'.slots + b' ≤ b) (hw : zSum [] + 1 ≤ nL')
    (hJ : zJ y' cc' nL' ret' R' (fun r M' => zJG (zGH hh) y cc nL ret R Q X a' b' n l (zPush r st) M') (fun E M' => zHl hh y cc nL ret R Q X a' b' pc E M') R'.cells R'.slots 0 (zEnt nL' [.ref k]) [] M) : zJG (zGH hh) y cc nL ret R Q X a b pc l (.ref k :: st) M := zj_callVH (vs := []) hn hd S hR hk hcl hst ha9 hb9 hw hJ
theorem zj_callVH1 {y : MethodName} {cc : ByteArray} {nL : Nat} {ret : Option FieldType} {R : Room} {Q : Option Value → zM → Prop} {X : String → zM → Prop} {a b pc n : Nat} {l : List (Option Value)} {st : List Value} {M : zM} {hh : List (Nat × Nat × Nat × Nat)} {y' : MethodName} {cc' : ByteArray} {nL' idx k a' b' : Nat} {ret' : Option FieldType} {R' : Room} {v1 : Value} (hn : pc + 3 = n) (hd : decode cc pc = .ok (.invokevirtual idx, 3)) (S : zSv y.cls idx y' cc' nL' ret' 1) (hR : R'.frames + 1 ≤ R.frames ∧ 8 + (nL' + 11) + R'.locals ≤ R.locals) (hk : k < 133) (hcl : (vwCl[zTy k]?).map (fun q => q.1) = some y'.cls) (hst : zSum st ≤ 8) (ha9 : R'.cells + a' ≤ a) (hb9 : R'.slots + b' ≤ b) (hw : zSum [v1] + 1 ≤ nL')
    (hJ : zJ y' cc' nL' ret' R' (fun r M' => zJG (zGH hh) y cc nL ret R Q X a' b' n l (zPush r st) M') (fun E M' => zHl hh y cc nL ret R Q X a' b' pc E M') R'.cells R'.slots 0 (zEnt nL' [.ref k, v1]) [] M) : zJG (zGH hh) y cc nL ret R Q X a b pc l (v1 :: .ref k :: st) M := zj_callVH (vs := [v1]) hn hd S hR hk hcl hst ha9 hb9 hw hJ
theorem zj_callVH2 {y : MethodName} {cc : ByteArray} {nL : Nat} {ret : Option FieldType} {R : Room} {Q : Option Value → zM → Prop} {X : String → zM → Prop} {a b pc n : Nat} {l : List (Option Value)} {st : List Value} {M : zM} {hh : List (Nat × Nat × Nat × Nat)} {y' : MethodName} {cc' : ByteArray} {nL' idx k a' b' : Nat} {ret' : Option FieldType} {R' : Room} {v1 v2 : Value} (hn : pc + 3 = n) (hd : decode cc pc = .ok (.invokevirtual idx, 3)) (S : zSv y.cls idx y' cc' nL' ret' 2) (hR : R'.frames + 1 ≤ R.frames ∧ 8 + (nL' + 11) + R'.locals ≤ R.locals) (hk : k < 133) (hcl : (vwCl[zTy k]?).map (fun q => q.1) = some y'.cls) (hst : zSum st ≤ 8) (ha9 : R'.cells + a' ≤ a) (hb9 : R'.slots + b' ≤ b) (hw : zSum [v1, v2] + 1 ≤ nL')
    (hJ : zJ y' cc' nL' ret' R' (fun r M' => zJG (zGH hh) y cc nL ret R Q X a' b' n l (zPush r st) M') (fun E M' => zHl hh y cc nL ret R Q X a' b' pc E M') R'.cells R'.slots 0 (zEnt nL' [.ref k, v1, v2]) [] M) : zJG (zGH hh) y cc nL ret R Q X a b pc l (v2 :: v1 :: .ref k :: st) M := zj_callVH (vs := [v1, v2]) hn hd S hR hk hcl hst ha9 hb9 hw hJ
theorem zj_callVH3 {y : MethodName} {cc : ByteArray} {nL : Nat} {ret : Option FieldType} {R : Room} {Q : Option Value → zM → Prop} {X : String → zM → Prop} {a b pc n : Nat} {l : List (Option Value)} {st : List Value} {M : zM} {hh : List (Nat × Nat × Nat × Nat)} {y' : MethodName} {cc' : ByteArray} {nL' idx k a' b' : Nat} {ret' : Option FieldType} {R' : Room} {v1 v2 v3 : Value} (hn : pc + 3 = n) (hd : decode cc pc = .ok (.invokevirtual idx, 3)) (S : zSv y.cls idx y' cc' nL' ret' 3) (hR : R'.frames + 1 ≤ R.frames ∧ 8 + (nL' + 11) + R'.locals ≤ R.locals) (hk : k < 133) (hcl : (vwCl[zTy k]?).map (fun q => q.1) = some y'.cls) (hst : zSum st ≤ 8) (ha9 : R'.cells + a' ≤ a) (hb9 : R'.slots + b' ≤ b) (hw : zSum [v1, v2, v3] + 1 ≤ nL')
    (hJ : zJ y' cc' nL' ret' R' (fun r M' => zJG (zGH hh) y cc nL ret R Q X a' b' n l (zPush r st) M') (fun E M' => zHl hh y cc nL ret R Q X a' b' pc E M') R'.cells R'.slots 0 (zEnt nL' [.ref k, v1, v2, v3]) [] M) : zJG (zGH hh) y cc nL ret R Q X a b pc l (v3 :: v2 :: v1 :: .ref k :: st) M := zj_callVH (vs := [v1, v2, v3]) hn hd S hR hk hcl hst ha9 hb9 hw hJ
theorem zj_callVH4 {y : MethodName} {cc : ByteArray} {nL : Nat} {ret : Option FieldType} {R : Room} {Q : Option Value → zM → Prop} {X : String → zM → Prop} {a b pc n : Nat} {l : List (Option Value)} {st : List Value} {M : zM} {hh : List (Nat × Nat × Nat × Nat)} {y' : MethodName} {cc' : ByteArray} {nL' idx k a' b' : Nat} {ret' : Option FieldType} {R' : Room} {v1 v2 v3 v4 : Value} (hn : pc + 3 = n) (hd : decode cc pc = .ok (.invokevirtual idx, 3)) (S : zSv y.cls idx y' cc' nL' ret' 4) (hR : R'.frames + 1 ≤ R.frames ∧ 8 + (nL' + 11) + R'.locals ≤ R.locals) (hk : k < 133) (hcl : (vwCl[zTy k]?).map (fun q => q.1) = some y'.cls) (hst : zSum st ≤ 8) (ha9 : R'.cells + a' ≤ a) (hb9 : R'.slots + b' ≤ b) (hw : zSum [v1, v2, v3, v4] + 1 ≤ nL')
    (hJ : zJ y' cc' nL' ret' R' (fun r M' => zJG (zGH hh) y cc nL ret R Q X a' b' n l (zPush r st) M') (fun E M' => zHl hh y cc nL ret R Q X a' b' pc E M') R'.cells R'.slots 0 (zEnt nL' [.ref k, v1, v2, v3, v4]) [] M) : zJG (zGH hh) y cc nL ret R Q X a b pc l (v4 :: v3 :: v2 :: v1 :: .ref k :: st) M := zj_callVH (vs := [v1, v2, v3, v4]) hn hd S hR hk hcl hst ha9 hb9 hw hJ
theorem zj_callVH5 {y : MethodName} {cc : ByteArray} {nL : Nat} {ret : Option FieldType} {R : Room} {Q : Option Value → zM → Prop} {X : String → zM → Prop} {a b pc n : Nat} {l : List (Option Value)} {st : List Value} {M : zM} {hh : List (Nat × Nat × Nat × Nat)} {y' : MethodName} {cc' : ByteArray} {nL' idx k a' b' : Nat} {ret' : Option FieldType} {R' : Room} {v1 v2 v3 v4 v5 : Value} (hn : pc + 3 = n) (hd : decode cc pc = .ok (.invokevirtual idx, 3)) (S : zSv y.cls idx y' cc' nL' ret' 5) (hR : R'.frames + 1 ≤ R.frames ∧ 8 + (nL' + 11) + R'.locals ≤ R.locals) (hk : k < 133) (hcl : (vwCl[zTy k]?).map (fun q => q.1) = some y'.cls) (hst : zSum st ≤ 8) (ha9 : R'.cells + a' ≤ a) (hb9 : R'.slots + b' ≤ b) (hw : zSum [v1, v2, v3, v4, v5] + 1 ≤ nL')
    (hJ : zJ y' cc' nL' ret' R' (fun r M' => zJG (zGH hh) y cc nL ret R Q X a' b' n l (zPush r st) M') (fun E M' => zHl hh y cc nL ret R Q X a' b' pc E M') R'.cells R'.slots 0 (zEnt nL' [.ref k, v1, v2, v3, v4, v5]) [] M) : zJG (zGH hh) y cc nL ret R Q X a b pc l (v5 :: v4 :: v3 :: v2 :: v1 :: .ref k :: st) M := zj_callVH (vs := [v1, v2, v3, v4, v5]) hn hd S hR hk hcl hst ha9 hb9 hw hJ
theorem jL_append {S : zLS} {x1 x2 x3 x4 x5 : Int32} {Q : Option Value → zM → Prop} {X : String → zM → Prop} {M : zM} (hI : zIc M S) (hP : zIp S) (h : ∀ M', zFrC M M' → zIc M' (S.1, (if S.2.1.1 + 20 ≤ 1400 then S.2.1.1 + 20 else S.2.1.1, if S.2.1.1 + 20 ≤ 1400 then tapp S.2.1.2 S.2.1.1 x1 x2 x3 x4 x5 else S.2.1.2), S.2.2) → ((a_append S.2.1.1).1 = 0 → M'.2.1 131 0 = (a_append S.2.1.1).2.toInt64) → Q (some (.int (nI (a_append S.2.1.1).1))) M') : zJG (zGH [(0, 16, 19, 13)]) yL_append cL_append 8 (some .int) rL_append Q X rL_append.cells rL_append.slots 0 (zEnt 8 [.ref 99, .int x1, .int x2, .int x3, .int x4, .int x5, .ref 131]) [] M := by
  show zJG (zGH [(0, 16, 19, 13)]) yL_append cL_append 8 (some .int) rL_append Q X 1 6 0 [some (.ref 99), some (.int x1), some (.int x2), some (.int x3), some (.int x4), some (.int x5), some (.ref 131), none] [] M
  refine zj_aload6 (n := 2) rfl dL_append_0 ?_
  refine zj_iconstN_0 (n := 3) rfl dL_append_2 ?_
  refine zj_aload0 (n := 4) rfl dL_append_3 ?_
  refine zj_iload1 (n := 5) rfl dL_append_4 ?_
  refine zj_iload2 (n := 6) rfl dL_append_5 ?_
  refine zj_iload3 (n := 7) rfl dL_append_6 ?_
  refine zj_iload4 (n := 9) rfl dL_append_7 ?_
  refine zj_iload5 (n := 11) rfl dL_append_9 ?_
  refine zj_callVH5 (n := 14) (a' := 0) (b' := 0) rfl dL_append_11 zm_L_7 (by decide) (by decide) rfl (by decide) (Nat.le_of_ble_eq_true rfl) (Nat.le_of_ble_eq_true rfl) (Nat.le_of_ble_eq_true rfl) (jX9_append hI.2.2.1 (fun q => zHl_mk [] [] (0, 16, 19, 13) 7 2 rfl (by decide) (fun z hz => by cases hz) rfl (by decide) zlk_13 zlc_ISE (Or.inr ⟨dL_append_19, rfl⟩) (by decide) (zj_iconstN_1 (n := 22) rfl dL_append_21 (zj_ireturn dL_append_22 rfl rfl (by have h9 := h M zFrC.rf (by rw [if_neg (zq_app1 q), if_neg (zq_app1 q)]; exact hI) (fun q0 => absurd q0 (by omega)); rw [q] at h9; exact h9)))) (fun q M9 hf9 hB9 => ?_))
  have hF9 := hf9.fC
  have hI9 : zIc M9 (S.1, (if S.2.1.1 + 20 ≤ 1400 then S.2.1.1 + 20 else S.2.1.1, if S.2.1.1 + 20 ≤ 1400 then tapp S.2.1.2 S.2.1.1 x1 x2 x3 x4 x5 else S.2.1.2), S.2.2) := by
    rw [if_pos (zq_app0 q), if_pos (zq_app0 q)]
    exact hI.b hf9 hB9
  refine zj_i2l (n := 15) rfl dL_append_14 ?_
  refine zj_lastoreN (n := 16) rfl dL_append_15 (by decide) rfl (by decide) ?_
  refine zj_goto (tgt := 23) dL_append_16 (by decide) ?_
  refine zj_iconstN_0 (n := 24) rfl dL_append_23 ?_
  refine zj_ireturn dL_append_24 rfl rfl ?_
  have h9 := h _ hF9.out hI9.out (fun _ => by dsimp only; rw [zU_eq])
  rw [q] at h9
  exact h9
theorem jL_truncate {S : zLS} {x : Int32} {Q : Option Value → zM → Prop} {X : String → zM → Prop} {M : zM} (hI : zIc M S) (hP : zIp S) (h : ∀ M', zFrC M M' → zIc M' (S.1, (if zin x (S.2.1.1 + 1) then xn x else S.2.1.1, S.2.1.2), S.2.2) → Q (some (.int (nI (a_trunc S.2.1.1 x).1))) M') : zJG (zGH [(0, 5, 8, 19)]) yL_truncate cL_truncate 3 (some .int) rL_truncate Q X rL_truncate.cells rL_truncate.slots 0 (zEnt 3 [.ref 99, .int x]) [] M := by
  show zJG (zGH [(0, 5, 8, 19)]) yL_truncate cL_truncate 3 (some .int) rL_truncate Q X 1 6 0 [some (.ref 99), some (.int x), none] [] M
  refine zj_aload0 (n := 1) rfl dL_truncate_0 ?_
  refine zj_iload1 (n := 2) rfl dL_truncate_1 ?_
  refine zj_callVH1 (n := 5) (a' := 0) (b' := 0) rfl dL_truncate_2 zm_L_15 (by decide) (by decide) rfl (by decide) (Nat.le_of_ble_eq_true rfl) (Nat.le_of_ble_eq_true rfl) (Nat.le_of_ble_eq_true rfl) (jX9_truncate hI.2.2.1 (fun q => zHl_mk [] [] (0, 5, 8, 19) 2 1 rfl (by decide) (fun z hz => by cases hz) rfl (by decide) zlk_19 zlc_IAE (Or.inl ⟨2, rfl, dL_truncate_8, rfl⟩) (by decide) (zj_iconstN_1 (n := 10) rfl dL_truncate_9 (zj_ireturn dL_truncate_10 rfl rfl (by have h9 := h M zFrC.rf (by rw [if_neg (zq_tr1 q)]; exact hI); rw [q] at h9; exact h9)))) (fun q M9 hf9 hx9 hB9 => ?_))
  have hF9 := hf9.fC
  have hI9 : zIc M9 (S.1, (if zin x (S.2.1.1 + 1) then xn x else S.2.1.1, S.2.1.2), S.2.2) := by
    rw [if_pos (zq_tr0 q)]
    exact hI.b hf9 hB9
  refine zj_goto (tgt := 11) dL_truncate_5 (by decide) ?_
  refine zj_iconstN_0 (n := 12) rfl dL_truncate_11 ?_
  refine zj_ireturn dL_truncate_12 rfl rfl ?_
  have h9 := h M9 hF9 hI9
  rw [q] at h9
  exact h9
theorem jL_find {S : zLS} {x : Int32} {Q : Option Value → zM → Prop} {X : String → zM → Prop} {M : zM} (hI : zIc M S) (hP : zIp S) (h : ∀ M', zFrC M M' → zIc M' (S.1, (if zin x 3 then 0 else S.2.1.1, S.2.1.2), S.2.2) → ((a_find S.1.1 S.2.1.1 S.2.1.2 x).1 = 0 → M'.2.1 131 0 = (a_find S.1.1 S.2.1.1 S.2.1.2 x).2.toInt64) → Q (some (.int (nI (a_find S.1.1 S.2.1.1 S.2.1.2 x).1))) M') : zJG (zGH [(0, 9, 12, 19)]) yL_find cL_find 4 (some .int) rL_find Q X rL_find.cells rL_find.slots 0 (zEnt 4 [.ref 99, .int x, .ref 131]) [] M := by
  show zJG (zGH [(0, 9, 12, 19)]) yL_find cL_find 4 (some .int) rL_find Q X 1 6 0 [some (.ref 99), some (.int x), some (.ref 131), none] [] M
  refine zj_aload2 (n := 1) rfl dL_find_0 ?_
  refine zj_iconstN_0 (n := 2) rfl dL_find_1 ?_
  refine zj_aload0 (n := 3) rfl dL_find_2 ?_
  refine zj_iload1 (n := 4) rfl dL_find_3 ?_
  refine zj_callVH1 (n := 7) (a' := 0) (b' := 0) rfl dL_find_4 zm_L_21 (by decide) (by decide) rfl (by decide) (Nat.le_of_ble_eq_true rfl) (Nat.le_of_ble_eq_true rfl) (Nat.le_of_ble_eq_true rfl) (jX9_find hI.2.2.1 hI.1.1 hP.2.1 (fun q => zHl_mk [] [] (0, 9, 12, 19) 3 1 rfl (by decide) (fun z hz => by cases hz) rfl (by decide) zlk_19 zlc_IAE (Or.inl ⟨3, rfl, dL_find_12, rfl⟩) (by decide) (zj_iconstN_1 (n := 14) rfl dL_find_13 (zj_ireturn dL_find_14 rfl rfl (by have h9 := h M zFrC.rf (by rw [if_neg (zq_fi1 q)]; exact hI) (fun q0 => absurd q0 (by omega)); rw [q] at h9; exact h9)))) (fun q M9 hf9 hB9 => ?_))
  have hF9 := hf9.fC
  have hI9 : zIc M9 (S.1, (if zin x 3 then 0 else S.2.1.1, S.2.1.2), S.2.2) := by
    rw [if_pos (zq_fi0 q)]
    exact hI.b hf9 hB9
  refine zj_i2l (n := 8) rfl dL_find_7 ?_
  refine zj_lastoreN (n := 9) rfl dL_find_8 (by decide) rfl (by decide) ?_
  refine zj_goto (tgt := 15) dL_find_9 (by decide) ?_
  refine zj_iconstN_0 (n := 16) rfl dL_find_15 ?_
  refine zj_ireturn dL_find_16 rfl rfl ?_
  have h9 := h _ hF9.out hI9.out (fun _ => by dsimp only; rw [zU_eq])
  rw [q] at h9
  exact h9
theorem jL_count {S : zLS} {x : Int32} {Q : Option Value → zM → Prop} {X : String → zM → Prop} {M : zM} (hI : zIc M S) (hP : zIp S) (h : ∀ M', zFrC M M' → zIc M' S → ((a_count S.1.1 x).1 = 0 → M'.2.1 131 0 = (a_count S.1.1 x).2.toInt64) → Q (some (.int (nI (a_count S.1.1 x).1))) M') : zJG (zGH [(0, 9, 12, 19)]) yL_count cL_count 4 (some .int) rL_count Q X rL_count.cells rL_count.slots 0 (zEnt 4 [.ref 99, .int x, .ref 131]) [] M := by
  show zJG (zGH [(0, 9, 12, 19)]) yL_count cL_count 4 (some .int) rL_count Q X 1 6 0 [some (.ref 99), some (.int x), some (.ref 131), none] [] M
  refine zj_aload2 (n := 1) rfl dL_count_0 ?_
  refine zj_iconstN_0 (n := 2) rfl dL_count_1 ?_
  refine zj_aload0 (n := 3) rfl dL_count_2 ?_
  refine zj_iload1 (n := 4) rfl dL_count_3 ?_
  refine zj_callVH1 (n := 7) (a' := 0) (b' := 0) rfl dL_count_4 zm_L_25 (by decide) (by decide) rfl (by decide) (Nat.le_of_ble_eq_true rfl) (Nat.le_of_ble_eq_true rfl) (Nat.le_of_ble_eq_true rfl) (jX9_count hI.1 hP.1 (fun q => zHl_mk [] [] (0, 9, 12, 19) 3 1 rfl (by decide) (fun z hz => by cases hz) rfl (by decide) zlk_19 zlc_IAE (Or.inl ⟨3, rfl, dL_count_12, rfl⟩) (by decide) (zj_iconstN_1 (n := 14) rfl dL_count_13 (zj_ireturn dL_count_14 rfl rfl (by have h9 := h M zFrC.rf (hI) (fun q0 => absurd q0 (by omega)); rw [q] at h9; exact h9)))) (fun q M9 hq9 => ?_))
  have hF9 := hq9.fC
  have hI9 := hI.q hq9
  refine zj_i2l (n := 8) rfl dL_count_7 ?_
  refine zj_lastoreN (n := 9) rfl dL_count_8 (by decide) rfl (by decide) ?_
  refine zj_goto (tgt := 15) dL_count_9 (by decide) ?_
  refine zj_iconstN_0 (n := 16) rfl dL_count_15 ?_
  refine zj_ireturn dL_count_16 rfl rfl ?_
  have h9 := h _ hF9.out hI9.out (fun _ => by dsimp only; rw [zU_eq])
  rw [q] at h9
  exact h9
theorem jL_node {S : zLS} {x z : Int32} {Q : Option Value → zM → Prop} {X : String → zM → Prop} {M : zM} (hI : zIc M S) (hP : zIp S) (h : ∀ M', zFrC M M' → zIc M' S → ((a_node S.1.1 x z).1 = 0 → M'.2.1 131 0 = (a_node S.1.1 x z).2.toInt64) → Q (some (.int (nI (a_node S.1.1 x z).1))) M') : zJG (zGH [(0, 10, 13, 32), (0, 10, 17, 19)]) yL_node cL_node 5 (some .int) rL_node Q X rL_node.cells rL_node.slots 0 (zEnt 5 [.ref 99, .int x, .int z, .ref 131]) [] M := by
  show zJG (zGH [(0, 10, 13, 32), (0, 10, 17, 19)]) yL_node cL_node 5 (some .int) rL_node Q X 2 12 0 [some (.ref 99), some (.int x), some (.int z), some (.ref 131), none] [] M
  refine zj_aload3 (n := 1) rfl dL_node_0 ?_
  refine zj_iconstN_0 (n := 2) rfl dL_node_1 ?_
  refine zj_aload0 (n := 3) rfl dL_node_2 ?_
  refine zj_iload1 (n := 4) rfl dL_node_3 ?_
  refine zj_iload2 (n := 5) rfl dL_node_4 ?_
  refine zj_callVH2 (n := 8) (a' := 0) (b' := 0) rfl dL_node_5 zm_L_28 (by decide) (by decide) rfl (by decide) (Nat.le_of_ble_eq_true rfl) (Nat.le_of_ble_eq_true rfl) (Nat.le_of_ble_eq_true rfl) (jX9_node hI.1 hP.1 (fun q => zHl_mk [] [(0, 10, 17, 19)] (0, 10, 13, 32) 4 2 rfl (by decide) (fun z hz => by cases hz) rfl (by decide) zlk_32 zlc_IOOBE (Or.inr ⟨dL_node_13, rfl⟩) (by decide) (zj_iconstN_1 (n := 16) rfl dL_node_15 (zj_ireturn dL_node_16 rfl rfl (by have h9 := h M zFrC.rf (hI) (fun q0 => absurd q0 (by omega)); rw [q] at h9; exact h9)))) (fun q => zHl_mk [(0, 10, 13, 32)] [] (0, 10, 17, 19) 4 2 rfl (by decide) (fun z hz => by rcases List.mem_singleton.mp hz with rfl; exact ⟨by decide, "java/lang/IndexOutOfBoundsException", by decide, by decide, zlk_32⟩) rfl (by decide) zlk_19 zlc_IAE (Or.inr ⟨dL_node_17, rfl⟩) (by decide) (zj_iconstN_2 (n := 20) rfl dL_node_19 (zj_ireturn dL_node_20 rfl rfl (by have h9 := h M zFrC.rf (hI) (fun q0 => absurd q0 (by omega)); rw [q] at h9; exact h9)))) (fun q M9 hq9 => ?_))
  have hF9 := hq9.fC
  have hI9 := hI.q hq9
  refine zj_i2l (n := 9) rfl dL_node_8 ?_
  refine zj_lastoreN (n := 10) rfl dL_node_9 (by decide) rfl (by decide) ?_
  refine zj_goto (tgt := 21) dL_node_10 (by decide) ?_
  refine zj_iconstN_0 (n := 22) rfl dL_node_21 ?_
  refine zj_ireturn dL_node_22 rfl rfl ?_
  have h9 := h _ hF9.out hI9.out (fun _ => by dsimp only; rw [zU_eq])
  rw [q] at h9
  exact h9
theorem jL_groupsOn {S : zLS} {x : Int32} {Q : Option Value → zM → Prop} {X : String → zM → Prop} {M : zM} (hI : zIc M S) (hP : zIp S) (h : ∀ M', zFrC M M' → zIc M' S → ((a_groupsOn S.1.1 x).1 = 0 → M'.2.1 131 0 = (a_groupsOn S.1.1 x).2.toInt64) → Q (some (.int (nI (a_groupsOn S.1.1 x).1))) M') : zJG (zGH [(0, 9, 12, 32)]) yL_groupsOn cL_groupsOn 4 (some .int) rL_groupsOn Q X rL_groupsOn.cells rL_groupsOn.slots 0 (zEnt 4 [.ref 99, .int x, .ref 131]) [] M := by
  show zJG (zGH [(0, 9, 12, 32)]) yL_groupsOn cL_groupsOn 4 (some .int) rL_groupsOn Q X 1 6 0 [some (.ref 99), some (.int x), some (.ref 131), none] [] M
  refine zj_aload2 (n := 1) rfl dL_groupsOn_0 ?_
  refine zj_iconstN_0 (n := 2) rfl dL_groupsOn_1 ?_
  refine zj_aload0 (n := 3) rfl dL_groupsOn_2 ?_
  refine zj_iload1 (n := 4) rfl dL_groupsOn_3 ?_
  refine zj_callVH1 (n := 7) (a' := 0) (b' := 0) rfl dL_groupsOn_4 zm_L_34 (by decide) (by decide) rfl (by decide) (Nat.le_of_ble_eq_true rfl) (Nat.le_of_ble_eq_true rfl) (Nat.le_of_ble_eq_true rfl) (jX9_groupsOn hI.1 hP.1 (fun q => zHl_mk [] [] (0, 9, 12, 32) 3 1 rfl (by decide) (fun z hz => by cases hz) rfl (by decide) zlk_32 zlc_IOOBE (Or.inl ⟨3, rfl, dL_groupsOn_12, rfl⟩) (by decide) (zj_iconstN_1 (n := 14) rfl dL_groupsOn_13 (zj_ireturn dL_groupsOn_14 rfl rfl (by have h9 := h M zFrC.rf (hI) (fun q0 => absurd q0 (by omega)); rw [q] at h9; exact h9)))) (fun q M9 hq9 => ?_))
  have hF9 := hq9.fC
  have hI9 := hI.q hq9
  refine zj_i2l (n := 8) rfl dL_groupsOn_7 ?_
  refine zj_lastoreN (n := 9) rfl dL_groupsOn_8 (by decide) rfl (by decide) ?_
  refine zj_goto (tgt := 15) dL_groupsOn_9 (by decide) ?_
  refine zj_iconstN_0 (n := 16) rfl dL_groupsOn_15 ?_
  refine zj_ireturn dL_groupsOn_16 rfl rfl ?_
  have h9 := h _ hF9.out hI9.out (fun _ => by dsimp only; rw [zU_eq])
  rw [q] at h9
  exact h9
theorem jL_nodeFrom {S : zLS} {x : Int32} {Q : Option Value → zM → Prop} {X : String → zM → Prop} {M : zM} (hI : zIc M S) (hP : zIp S) (h : ∀ M', zFrC M M' → zIc M' S → ((a_nodeFrom S.1.1 x).1 = 0 → M'.2.1 131 0 = (a_nodeFrom S.1.1 x).2.toInt64) → Q (some (.int (nI (a_nodeFrom S.1.1 x).1))) M') : zJG (zGH [(0, 9, 12, 19)]) yL_nodeFrom cL_nodeFrom 4 (some .int) rL_nodeFrom Q X rL_nodeFrom.cells rL_nodeFrom.slots 0 (zEnt 4 [.ref 99, .int x, .ref 131]) [] M := by
  show zJG (zGH [(0, 9, 12, 19)]) yL_nodeFrom cL_nodeFrom 4 (some .int) rL_nodeFrom Q X 1 6 0 [some (.ref 99), some (.int x), some (.ref 131), none] [] M
  refine zj_aload2 (n := 1) rfl dL_nodeFrom_0 ?_
  refine zj_iconstN_0 (n := 2) rfl dL_nodeFrom_1 ?_
  refine zj_aload0 (n := 3) rfl dL_nodeFrom_2 ?_
  refine zj_iload1 (n := 4) rfl dL_nodeFrom_3 ?_
  refine zj_callVH1 (n := 7) (a' := 0) (b' := 0) rfl dL_nodeFrom_4 zm_L_37 (by decide) (by decide) rfl (by decide) (Nat.le_of_ble_eq_true rfl) (Nat.le_of_ble_eq_true rfl) (Nat.le_of_ble_eq_true rfl) (jX9_nodeFrom hI.1 hP.1 (fun q => zHl_mk [] [] (0, 9, 12, 19) 3 1 rfl (by decide) (fun z hz => by cases hz) rfl (by decide) zlk_19 zlc_IAE (Or.inl ⟨3, rfl, dL_nodeFrom_12, rfl⟩) (by decide) (zj_iconstN_1 (n := 14) rfl dL_nodeFrom_13 (zj_ireturn dL_nodeFrom_14 rfl rfl (by have h9 := h M zFrC.rf (hI) (fun q0 => absurd q0 (by omega)); rw [q] at h9; exact h9)))) (fun q M9 hq9 => ?_))
  have hF9 := hq9.fC
  have hI9 := hI.q hq9
  refine zj_i2l (n := 8) rfl dL_nodeFrom_7 ?_
  refine zj_lastoreN (n := 9) rfl dL_nodeFrom_8 (by decide) rfl (by decide) ?_
  refine zj_goto (tgt := 15) dL_nodeFrom_9 (by decide) ?_
  refine zj_iconstN_0 (n := 16) rfl dL_nodeFrom_15 ?_
  refine zj_ireturn dL_nodeFrom_16 rfl rfl ?_
  have h9 := h _ hF9.out hI9.out (fun _ => by dsimp only; rw [zU_eq])
  rw [q] at h9
  exact h9
theorem jL_clockwise {S : zLS} {x z : Int32} {Q : Option Value → zM → Prop} {X : String → zM → Prop} {M : zM} (hI : zIc M S) (hP : zIp S) (h : ∀ M', zFrC M M' → zIc M' S → ((a_clockwise S.1.1 x z).1 = 0 → M'.2.1 131 0 = (a_clockwise S.1.1 x z).2.toInt64) → Q (some (.int (nI (a_clockwise S.1.1 x z).1))) M') : zJG (zGH [(0, 10, 13, 32)]) yL_clockwise cL_clockwise 5 (some .int) rL_clockwise Q X rL_clockwise.cells rL_clockwise.slots 0 (zEnt 5 [.ref 99, .int x, .int z, .ref 131]) [] M := by
  show zJG (zGH [(0, 10, 13, 32)]) yL_clockwise cL_clockwise 5 (some .int) rL_clockwise Q X 2 12 0 [some (.ref 99), some (.int x), some (.int z), some (.ref 131), none] [] M
  refine zj_aload3 (n := 1) rfl dL_clockwise_0 ?_
  refine zj_iconstN_0 (n := 2) rfl dL_clockwise_1 ?_
  refine zj_aload0 (n := 3) rfl dL_clockwise_2 ?_
  refine zj_iload1 (n := 4) rfl dL_clockwise_3 ?_
  refine zj_iload2 (n := 5) rfl dL_clockwise_4 ?_
  refine zj_callVH2 (n := 8) (a' := 0) (b' := 0) rfl dL_clockwise_5 zm_L_40 (by decide) (by decide) rfl (by decide) (Nat.le_of_ble_eq_true rfl) (Nat.le_of_ble_eq_true rfl) (Nat.le_of_ble_eq_true rfl) (jX9_clockwise hI.1 hP.1 (fun q => zHl_mk [] [] (0, 10, 13, 32) 4 2 rfl (by decide) (fun z hz => by cases hz) rfl (by decide) zlk_32 zlc_IOOBE (Or.inr ⟨dL_clockwise_13, rfl⟩) (by decide) (zj_iconstN_1 (n := 16) rfl dL_clockwise_15 (zj_ireturn dL_clockwise_16 rfl rfl (by have h9 := h M zFrC.rf (hI) (fun q0 => absurd q0 (by omega)); rw [q] at h9; exact h9)))) (fun q M9 hq9 => ?_))
  have hF9 := hq9.fC
  have hI9 := hI.q hq9
  refine zj_i2l (n := 9) rfl dL_clockwise_8 ?_
  refine zj_lastoreN (n := 10) rfl dL_clockwise_9 (by decide) rfl (by decide) ?_
  refine zj_goto (tgt := 17) dL_clockwise_10 (by decide) ?_
  refine zj_iconstN_0 (n := 18) rfl dL_clockwise_17 ?_
  refine zj_ireturn dL_clockwise_18 rfl rfl ?_
  have h9 := h _ hF9.out hI9.out (fun _ => by dsimp only; rw [zU_eq])
  rw [q] at h9
  exact h9
theorem jL_zoneShards {S : zLS} {x : Int32} {Q : Option Value → zM → Prop} {X : String → zM → Prop} {M : zM} (hI : zIc M S) (hP : zIp S) (h : ∀ M', zFrC M M' → zIc M' S → ((a_zoneShards S.1.1 x).1 = 0 → M'.2.1 131 0 = (a_zoneShards S.1.1 x).2.toInt64) → Q (some (.int (nI (a_zoneShards S.1.1 x).1))) M') : zJG (zGH [(0, 9, 12, 19)]) yL_zoneShards cL_zoneShards 4 (some .int) rL_zoneShards Q X rL_zoneShards.cells rL_zoneShards.slots 0 (zEnt 4 [.ref 99, .int x, .ref 131]) [] M := by
  show zJG (zGH [(0, 9, 12, 19)]) yL_zoneShards cL_zoneShards 4 (some .int) rL_zoneShards Q X 1 6 0 [some (.ref 99), some (.int x), some (.ref 131), none] [] M
  refine zj_aload2 (n := 1) rfl dL_zoneShards_0 ?_
  refine zj_iconstN_0 (n := 2) rfl dL_zoneShards_1 ?_
  refine zj_aload0 (n := 3) rfl dL_zoneShards_2 ?_
  refine zj_iload1 (n := 4) rfl dL_zoneShards_3 ?_
  refine zj_callVH1 (n := 7) (a' := 0) (b' := 0) rfl dL_zoneShards_4 zm_L_43 (by decide) (by decide) rfl (by decide) (Nat.le_of_ble_eq_true rfl) (Nat.le_of_ble_eq_true rfl) (Nat.le_of_ble_eq_true rfl) (jX9_zoneShards hI.1 hP.1 (fun q => zHl_mk [] [] (0, 9, 12, 19) 3 1 rfl (by decide) (fun z hz => by cases hz) rfl (by decide) zlk_19 zlc_IAE (Or.inl ⟨3, rfl, dL_zoneShards_12, rfl⟩) (by decide) (zj_iconstN_1 (n := 14) rfl dL_zoneShards_13 (zj_ireturn dL_zoneShards_14 rfl rfl (by have h9 := h M zFrC.rf (hI) (fun q0 => absurd q0 (by omega)); rw [q] at h9; exact h9)))) (fun q M9 hq9 => ?_))
  have hF9 := hq9.fC
  have hI9 := hI.q hq9
  refine zj_i2l (n := 8) rfl dL_zoneShards_7 ?_
  refine zj_lastoreN (n := 9) rfl dL_zoneShards_8 (by decide) rfl (by decide) ?_
  refine zj_goto (tgt := 15) dL_zoneShards_9 (by decide) ?_
  refine zj_iconstN_0 (n := 16) rfl dL_zoneShards_15 ?_
  refine zj_ireturn dL_zoneShards_16 rfl rfl ?_
  have h9 := h _ hF9.out hI9.out (fun _ => by dsimp only; rw [zU_eq])
  rw [q] at h9
  exact h9
theorem jL_tenant {S : zLS} {x z : Int32} {Q : Option Value → zM → Prop} {X : String → zM → Prop} {M : zM} (hI : zIc M S) (hP : zIp S) (h : ∀ M', zFrC M M' → zIc M' S → ((a_tenant S.1.1 x z).1 = 0 → M'.2.1 131 0 = (a_tenant S.1.1 x z).2.toInt64) → Q (some (.int (nI (a_tenant S.1.1 x z).1))) M') : zJG (zGH [(0, 10, 13, 32), (0, 10, 17, 19)]) yL_tenant cL_tenant 5 (some .int) rL_tenant Q X rL_tenant.cells rL_tenant.slots 0 (zEnt 5 [.ref 99, .int x, .int z, .ref 131]) [] M := by
  show zJG (zGH [(0, 10, 13, 32), (0, 10, 17, 19)]) yL_tenant cL_tenant 5 (some .int) rL_tenant Q X 2 12 0 [some (.ref 99), some (.int x), some (.int z), some (.ref 131), none] [] M
  refine zj_aload3 (n := 1) rfl dL_tenant_0 ?_
  refine zj_iconstN_0 (n := 2) rfl dL_tenant_1 ?_
  refine zj_aload0 (n := 3) rfl dL_tenant_2 ?_
  refine zj_iload1 (n := 4) rfl dL_tenant_3 ?_
  refine zj_iload2 (n := 5) rfl dL_tenant_4 ?_
  refine zj_callVH2 (n := 8) (a' := 0) (b' := 0) rfl dL_tenant_5 zm_L_46 (by decide) (by decide) rfl (by decide) (Nat.le_of_ble_eq_true rfl) (Nat.le_of_ble_eq_true rfl) (Nat.le_of_ble_eq_true rfl) (jX9_tenant hI.1 hP.1 (fun q => zHl_mk [] [(0, 10, 17, 19)] (0, 10, 13, 32) 4 2 rfl (by decide) (fun z hz => by cases hz) rfl (by decide) zlk_32 zlc_IOOBE (Or.inr ⟨dL_tenant_13, rfl⟩) (by decide) (zj_iconstN_1 (n := 16) rfl dL_tenant_15 (zj_ireturn dL_tenant_16 rfl rfl (by have h9 := h M zFrC.rf (hI) (fun q0 => absurd q0 (by omega)); rw [q] at h9; exact h9)))) (fun q => zHl_mk [(0, 10, 13, 32)] [] (0, 10, 17, 19) 4 2 rfl (by decide) (fun z hz => by rcases List.mem_singleton.mp hz with rfl; exact ⟨by decide, "java/lang/IndexOutOfBoundsException", by decide, by decide, zlk_32⟩) rfl (by decide) zlk_19 zlc_IAE (Or.inr ⟨dL_tenant_17, rfl⟩) (by decide) (zj_iconstN_2 (n := 20) rfl dL_tenant_19 (zj_ireturn dL_tenant_20 rfl rfl (by have h9 := h M zFrC.rf (hI) (fun q0 => absurd q0 (by omega)); rw [q] at h9; exact h9)))) (fun q M9 hq9 => ?_))
  have hF9 := hq9.fC
  have hI9 := hI.q hq9
  refine zj_i2l (n := 9) rfl dL_tenant_8 ?_
  refine zj_lastoreN (n := 10) rfl dL_tenant_9 (by decide) rfl (by decide) ?_
  refine zj_goto (tgt := 21) dL_tenant_10 (by decide) ?_
  refine zj_iconstN_0 (n := 22) rfl dL_tenant_21 ?_
  refine zj_ireturn dL_tenant_22 rfl rfl ?_
  have h9 := h _ hF9.out hI9.out (fun _ => by dsimp only; rw [zU_eq])
  rw [q] at h9
  exact h9
theorem jL_share {S : zLS} {x : Int32} {Q : Option Value → zM → Prop} {X : String → zM → Prop} {M : zM} (hI : zIc M S) (hP : zIp S) (h : ∀ M', zFrC M M' → zIc M' S → ((a_share S.1.1 x).1 = 0 → M'.2.2.1 132 0 = (a_share S.1.1 x).2) → Q (some (.int (nI (a_share S.1.1 x).1))) M') : zJG (zGH [(0, 8, 11, 32)]) yL_share cL_share 4 (some .int) rL_share Q X rL_share.cells rL_share.slots 0 (zEnt 4 [.ref 99, .int x, .ref 132]) [] M := by
  show zJG (zGH [(0, 8, 11, 32)]) yL_share cL_share 4 (some .int) rL_share Q X 1 6 0 [some (.ref 99), some (.int x), some (.ref 132), none] [] M
  refine zj_aload2 (n := 1) rfl dL_share_0 ?_
  refine zj_iconstN_0 (n := 2) rfl dL_share_1 ?_
  refine zj_aload0 (n := 3) rfl dL_share_2 ?_
  refine zj_iload1 (n := 4) rfl dL_share_3 ?_
  refine zj_callVH1 (n := 7) (a' := 0) (b' := 0) rfl dL_share_4 zm_L_49 (by decide) (by decide) rfl (by decide) (Nat.le_of_ble_eq_true rfl) (Nat.le_of_ble_eq_true rfl) (Nat.le_of_ble_eq_true rfl) (jX9_share hI.1 hP.1 (fun q => zHl_mk [] [] (0, 8, 11, 32) 3 1 rfl (by decide) (fun z hz => by cases hz) rfl (by decide) zlk_32 zlc_IOOBE (Or.inl ⟨3, rfl, dL_share_11, rfl⟩) (by decide) (zj_iconstN_1 (n := 13) rfl dL_share_12 (zj_ireturn dL_share_13 rfl rfl (by have h9 := h M zFrC.rf (hI) (fun q0 => absurd q0 (by omega)); rw [q] at h9; exact h9)))) (fun q M9 hq9 => ?_))
  have hF9 := hq9.fC
  have hI9 := hI.q hq9
  refine zj_dastoreN (n := 8) rfl dL_share_7 (by decide) rfl (by decide) ?_
  refine zj_goto (tgt := 14) dL_share_8 (by decide) ?_
  refine zj_iconstN_0 (n := 15) rfl dL_share_14 ?_
  refine zj_ireturn dL_share_15 rfl rfl ?_
  have h9 := h _ hF9.outD hI9.outD (fun _ => by dsimp only; rw [zU_eq])
  rw [q] at h9
  exact h9
theorem jL_group {S : zLS} {x z : Int32} {Q : Option Value → zM → Prop} {X : String → zM → Prop} {M : zM} (hI : zIc M S) (hP : zIp S) (h : ∀ M', zFrC M M' → zIc M' S → ((a_group S.1.1 x z).1 = 0 → M'.2.1 131 0 = (a_group S.1.1 x z).2.toInt64) → Q (some (.int (nI (a_group S.1.1 x z).1))) M') : zJG (zGH [(0, 10, 13, 32), (0, 10, 17, 19)]) yL_group cL_group 5 (some .int) rL_group Q X rL_group.cells rL_group.slots 0 (zEnt 5 [.ref 99, .int x, .int z, .ref 131]) [] M := by
  show zJG (zGH [(0, 10, 13, 32), (0, 10, 17, 19)]) yL_group cL_group 5 (some .int) rL_group Q X 2 12 0 [some (.ref 99), some (.int x), some (.int z), some (.ref 131), none] [] M
  refine zj_aload3 (n := 1) rfl dL_group_0 ?_
  refine zj_iconstN_0 (n := 2) rfl dL_group_1 ?_
  refine zj_aload0 (n := 3) rfl dL_group_2 ?_
  refine zj_iload1 (n := 4) rfl dL_group_3 ?_
  refine zj_iload2 (n := 5) rfl dL_group_4 ?_
  refine zj_callVH2 (n := 8) (a' := 0) (b' := 0) rfl dL_group_5 zm_L_53 (by decide) (by decide) rfl (by decide) (Nat.le_of_ble_eq_true rfl) (Nat.le_of_ble_eq_true rfl) (Nat.le_of_ble_eq_true rfl) (jX9_group hI.1 hP.1 (fun q => zHl_mk [] [(0, 10, 17, 19)] (0, 10, 13, 32) 4 2 rfl (by decide) (fun z hz => by cases hz) rfl (by decide) zlk_32 zlc_IOOBE (Or.inr ⟨dL_group_13, rfl⟩) (by decide) (zj_iconstN_1 (n := 16) rfl dL_group_15 (zj_ireturn dL_group_16 rfl rfl (by have h9 := h M zFrC.rf (hI) (fun q0 => absurd q0 (by omega)); rw [q] at h9; exact h9)))) (fun q => zHl_mk [(0, 10, 13, 32)] [] (0, 10, 17, 19) 4 2 rfl (by decide) (fun z hz => by rcases List.mem_singleton.mp hz with rfl; exact ⟨by decide, "java/lang/IndexOutOfBoundsException", by decide, by decide, zlk_32⟩) rfl (by decide) zlk_19 zlc_IAE (Or.inr ⟨dL_group_17, rfl⟩) (by decide) (zj_iconstN_2 (n := 20) rfl dL_group_19 (zj_ireturn dL_group_20 rfl rfl (by have h9 := h M zFrC.rf (hI) (fun q0 => absurd q0 (by omega)); rw [q] at h9; exact h9)))) (fun q M9 hq9 => ?_))
  have hF9 := hq9.fC
  have hI9 := hI.q hq9
  refine zj_i2l (n := 9) rfl dL_group_8 ?_
  refine zj_lastoreN (n := 10) rfl dL_group_9 (by decide) rfl (by decide) ?_
  refine zj_goto (tgt := 21) dL_group_10 (by decide) ?_
  refine zj_iconstN_0 (n := 22) rfl dL_group_21 ?_
  refine zj_ireturn dL_group_22 rfl rfl ?_
  have h9 := h _ hF9.out hI9.out (fun _ => by dsimp only; rw [zU_eq])
  rw [q] at h9
  exact h9
theorem jL_nodeOf {S : zLS} {x z : Int32} {Q : Option Value → zM → Prop} {X : String → zM → Prop} {M : zM} (hI : zIc M S) (hP : zIp S) (h : ∀ M', zFrC M M' → zIc M' S → ((a_nodeOf S.1.1 x z).1 = 0 → M'.2.1 131 0 = (a_nodeOf S.1.1 x z).2.toInt64) → Q (some (.int (nI (a_nodeOf S.1.1 x z).1))) M') : zJG (zGH [(0, 10, 13, 32)]) yL_nodeOf cL_nodeOf 5 (some .int) rL_nodeOf Q X rL_nodeOf.cells rL_nodeOf.slots 0 (zEnt 5 [.ref 99, .int x, .int z, .ref 131]) [] M := by
  show zJG (zGH [(0, 10, 13, 32)]) yL_nodeOf cL_nodeOf 5 (some .int) rL_nodeOf Q X 2 12 0 [some (.ref 99), some (.int x), some (.int z), some (.ref 131), none] [] M
  refine zj_aload3 (n := 1) rfl dL_nodeOf_0 ?_
  refine zj_iconstN_0 (n := 2) rfl dL_nodeOf_1 ?_
  refine zj_aload0 (n := 3) rfl dL_nodeOf_2 ?_
  refine zj_iload1 (n := 4) rfl dL_nodeOf_3 ?_
  refine zj_iload2 (n := 5) rfl dL_nodeOf_4 ?_
  refine zj_callVH2 (n := 8) (a' := 0) (b' := 0) rfl dL_nodeOf_5 zm_L_56 (by decide) (by decide) rfl (by decide) (Nat.le_of_ble_eq_true rfl) (Nat.le_of_ble_eq_true rfl) (Nat.le_of_ble_eq_true rfl) (jX9_nodeOf hI.1 hP.1 (fun q => zHl_mk [] [] (0, 10, 13, 32) 4 2 rfl (by decide) (fun z hz => by cases hz) rfl (by decide) zlk_32 zlc_IOOBE (Or.inr ⟨dL_nodeOf_13, rfl⟩) (by decide) (zj_iconstN_1 (n := 16) rfl dL_nodeOf_15 (zj_ireturn dL_nodeOf_16 rfl rfl (by have h9 := h M zFrC.rf (hI) (fun q0 => absurd q0 (by omega)); rw [q] at h9; exact h9)))) (fun q M9 hq9 => ?_))
  have hF9 := hq9.fC
  have hI9 := hI.q hq9
  refine zj_i2l (n := 9) rfl dL_nodeOf_8 ?_
  refine zj_lastoreN (n := 10) rfl dL_nodeOf_9 (by decide) rfl (by decide) ?_
  refine zj_goto (tgt := 17) dL_nodeOf_10 (by decide) ?_
  refine zj_iconstN_0 (n := 18) rfl dL_nodeOf_17 ?_
  refine zj_ireturn dL_nodeOf_18 rfl rfl ?_
  have h9 := h _ hF9.out hI9.out (fun _ => by dsimp only; rw [zU_eq])
  rw [q] at h9
  exact h9
theorem jL_missing {S : zLS} {x : Int32} {Q : Option Value → zM → Prop} {X : String → zM → Prop} {M : zM} (hI : zIc M S) (hP : zIp S) (h : ∀ M', zFrC M M' → zIc M' S → ((a_missing S.1.1 x).1 = 0 → M'.2.1 131 0 = (a_missing S.1.1 x).2.toInt64) → Q (some (.int (nI (a_missing S.1.1 x).1))) M') : zJG (zGH [(0, 9, 12, 32)]) yL_missing cL_missing 4 (some .int) rL_missing Q X rL_missing.cells rL_missing.slots 0 (zEnt 4 [.ref 99, .int x, .ref 131]) [] M := by
  show zJG (zGH [(0, 9, 12, 32)]) yL_missing cL_missing 4 (some .int) rL_missing Q X 1 6 0 [some (.ref 99), some (.int x), some (.ref 131), none] [] M
  refine zj_aload2 (n := 1) rfl dL_missing_0 ?_
  refine zj_iconstN_0 (n := 2) rfl dL_missing_1 ?_
  refine zj_aload0 (n := 3) rfl dL_missing_2 ?_
  refine zj_iload1 (n := 4) rfl dL_missing_3 ?_
  refine zj_callVH1 (n := 7) (a' := 0) (b' := 0) rfl dL_missing_4 zm_L_59 (by decide) (by decide) rfl (by decide) (Nat.le_of_ble_eq_true rfl) (Nat.le_of_ble_eq_true rfl) (Nat.le_of_ble_eq_true rfl) (jX9_missing hI.1 hP.1 (fun q => zHl_mk [] [] (0, 9, 12, 32) 3 1 rfl (by decide) (fun z hz => by cases hz) rfl (by decide) zlk_32 zlc_IOOBE (Or.inl ⟨3, rfl, dL_missing_12, rfl⟩) (by decide) (zj_iconstN_1 (n := 14) rfl dL_missing_13 (zj_ireturn dL_missing_14 rfl rfl (by have h9 := h M zFrC.rf (hI) (fun q0 => absurd q0 (by omega)); rw [q] at h9; exact h9)))) (fun q M9 hq9 => ?_))
  have hF9 := hq9.fC
  have hI9 := hI.q hq9
  refine zj_i2l (n := 8) rfl dL_missing_7 ?_
  refine zj_lastoreN (n := 9) rfl dL_missing_8 (by decide) rfl (by decide) ?_
  refine zj_goto (tgt := 15) dL_missing_9 (by decide) ?_
  refine zj_iconstN_0 (n := 16) rfl dL_missing_15 ?_
  refine zj_ireturn dL_missing_16 rfl rfl ?_
  have h9 := h _ hF9.out hI9.out (fun _ => by dsimp only; rw [zU_eq])
  rw [q] at h9
  exact h9
theorem jL_zonesOf {S : zLS} {x : Int32} {Q : Option Value → zM → Prop} {X : String → zM → Prop} {M : zM} (hI : zIc M S) (hP : zIp S) (h : ∀ M', zFrC M M' → zIc M' S → ((a_zonesOf S.1.1 x).1 = 0 → M'.2.1 131 0 = (a_zonesOf S.1.1 x).2.toInt64) → Q (some (.int (nI (a_zonesOf S.1.1 x).1))) M') : zJG (zGH [(0, 9, 12, 32)]) yL_zonesOf cL_zonesOf 4 (some .int) rL_zonesOf Q X rL_zonesOf.cells rL_zonesOf.slots 0 (zEnt 4 [.ref 99, .int x, .ref 131]) [] M := by
  show zJG (zGH [(0, 9, 12, 32)]) yL_zonesOf cL_zonesOf 4 (some .int) rL_zonesOf Q X 1 6 0 [some (.ref 99), some (.int x), some (.ref 131), none] [] M
  refine zj_aload2 (n := 1) rfl dL_zonesOf_0 ?_
  refine zj_iconstN_0 (n := 2) rfl dL_zonesOf_1 ?_
  refine zj_aload0 (n := 3) rfl dL_zonesOf_2 ?_
  refine zj_iload1 (n := 4) rfl dL_zonesOf_3 ?_
  refine zj_callVH1 (n := 7) (a' := 0) (b' := 0) rfl dL_zonesOf_4 zm_L_62 (by decide) (by decide) rfl (by decide) (Nat.le_of_ble_eq_true rfl) (Nat.le_of_ble_eq_true rfl) (Nat.le_of_ble_eq_true rfl) (jX9_zonesOf hI.1 hP.1 (fun q => zHl_mk [] [] (0, 9, 12, 32) 3 1 rfl (by decide) (fun z hz => by cases hz) rfl (by decide) zlk_32 zlc_IOOBE (Or.inl ⟨3, rfl, dL_zonesOf_12, rfl⟩) (by decide) (zj_iconstN_1 (n := 14) rfl dL_zonesOf_13 (zj_ireturn dL_zonesOf_14 rfl rfl (by have h9 := h M zFrC.rf (hI) (fun q0 => absurd q0 (by omega)); rw [q] at h9; exact h9)))) (fun q M9 hq9 => ?_))
  have hF9 := hq9.fC
  have hI9 := hI.q hq9
  refine zj_i2l (n := 8) rfl dL_zonesOf_7 ?_
  refine zj_lastoreN (n := 9) rfl dL_zonesOf_8 (by decide) rfl (by decide) ?_
  refine zj_goto (tgt := 15) dL_zonesOf_9 (by decide) ?_
  refine zj_iconstN_0 (n := 16) rfl dL_zonesOf_15 ?_
  refine zj_ireturn dL_zonesOf_16 rfl rfl ?_
  have h9 := h _ hF9.out hI9.out (fun _ => by dsimp only; rw [zU_eq])
  rw [q] at h9
  exact h9
theorem jL_loss {S : zLS} {x : Int32} {Q : Option Value → zM → Prop} {X : String → zM → Prop} {M : zM} (hI : zIc M S) (hP : zIp S) (h : ∀ M', zFrC M M' → zIc M' S → ((a_loss S.1.1 x).1 = 0 → M'.2.1 131 0 = (a_loss S.1.1 x).2.toInt64) → Q (some (.int (nI (a_loss S.1.1 x).1))) M') : zJG (zGH [(0, 9, 12, 32)]) yL_loss cL_loss 4 (some .int) rL_loss Q X rL_loss.cells rL_loss.slots 0 (zEnt 4 [.ref 99, .int x, .ref 131]) [] M := by
  show zJG (zGH [(0, 9, 12, 32)]) yL_loss cL_loss 4 (some .int) rL_loss Q X 1 6 0 [some (.ref 99), some (.int x), some (.ref 131), none] [] M
  refine zj_aload2 (n := 1) rfl dL_loss_0 ?_
  refine zj_iconstN_0 (n := 2) rfl dL_loss_1 ?_
  refine zj_aload0 (n := 3) rfl dL_loss_2 ?_
  refine zj_iload1 (n := 4) rfl dL_loss_3 ?_
  refine zj_callVH1 (n := 7) (a' := 0) (b' := 0) rfl dL_loss_4 zm_L_65 (by decide) (by decide) rfl (by decide) (Nat.le_of_ble_eq_true rfl) (Nat.le_of_ble_eq_true rfl) (Nat.le_of_ble_eq_true rfl) (jX9_loss hI.1 hP.1 (fun q => zHl_mk [] [] (0, 9, 12, 32) 3 1 rfl (by decide) (fun z hz => by cases hz) rfl (by decide) zlk_32 zlc_IOOBE (Or.inl ⟨3, rfl, dL_loss_12, rfl⟩) (by decide) (zj_iconstN_1 (n := 14) rfl dL_loss_13 (zj_ireturn dL_loss_14 rfl rfl (by have h9 := h M zFrC.rf (hI) (fun q0 => absurd q0 (by omega)); rw [q] at h9; exact h9)))) (fun q M9 hq9 => ?_))
  have hF9 := hq9.fC
  have hI9 := hI.q hq9
  refine zj_i2l (n := 8) rfl dL_loss_7 ?_
  refine zj_lastoreN (n := 9) rfl dL_loss_8 (by decide) rfl (by decide) ?_
  refine zj_goto (tgt := 15) dL_loss_9 (by decide) ?_
  refine zj_iconstN_0 (n := 16) rfl dL_loss_15 ?_
  refine zj_ireturn dL_loss_16 rfl rfl ?_
  have h9 := h _ hF9.out hI9.out (fun _ => by dsimp only; rw [zU_eq])
  rw [q] at h9
  exact h9
theorem jL_lossWithout {S : zLS} {x z : Int32} {Q : Option Value → zM → Prop} {X : String → zM → Prop} {M : zM} (hI : zIc M S) (hP : zIp S) (h : ∀ M', zFrC M M' → zIc M' S → ((a_lossWithout S.1.1 x z).1 = 0 → M'.2.1 131 0 = (a_lossWithout S.1.1 x z).2.toInt64) → Q (some (.int (nI (a_lossWithout S.1.1 x z).1))) M') : zJG (zGH [(0, 10, 13, 32)]) yL_lossWithout cL_lossWithout 5 (some .int) rL_lossWithout Q X rL_lossWithout.cells rL_lossWithout.slots 0 (zEnt 5 [.ref 99, .int x, .int z, .ref 131]) [] M := by
  show zJG (zGH [(0, 10, 13, 32)]) yL_lossWithout cL_lossWithout 5 (some .int) rL_lossWithout Q X 2 12 0 [some (.ref 99), some (.int x), some (.int z), some (.ref 131), none] [] M
  refine zj_aload3 (n := 1) rfl dL_lossWithout_0 ?_
  refine zj_iconstN_0 (n := 2) rfl dL_lossWithout_1 ?_
  refine zj_aload0 (n := 3) rfl dL_lossWithout_2 ?_
  refine zj_iload1 (n := 4) rfl dL_lossWithout_3 ?_
  refine zj_iload2 (n := 5) rfl dL_lossWithout_4 ?_
  refine zj_callVH2 (n := 8) (a' := 0) (b' := 0) rfl dL_lossWithout_5 zm_L_68 (by decide) (by decide) rfl (by decide) (Nat.le_of_ble_eq_true rfl) (Nat.le_of_ble_eq_true rfl) (Nat.le_of_ble_eq_true rfl) (jX9_lossWithout hI.1 hP.1 (fun q => zHl_mk [] [] (0, 10, 13, 32) 4 2 rfl (by decide) (fun z hz => by cases hz) rfl (by decide) zlk_32 zlc_IOOBE (Or.inr ⟨dL_lossWithout_13, rfl⟩) (by decide) (zj_iconstN_1 (n := 16) rfl dL_lossWithout_15 (zj_ireturn dL_lossWithout_16 rfl rfl (by have h9 := h M zFrC.rf (hI) (fun q0 => absurd q0 (by omega)); rw [q] at h9; exact h9)))) (fun q M9 hq9 => ?_))
  have hF9 := hq9.fC
  have hI9 := hI.q hq9
  refine zj_i2l (n := 9) rfl dL_lossWithout_8 ?_
  refine zj_lastoreN (n := 10) rfl dL_lossWithout_9 (by decide) rfl (by decide) ?_
  refine zj_goto (tgt := 17) dL_lossWithout_10 (by decide) ?_
  refine zj_iconstN_0 (n := 18) rfl dL_lossWithout_17 ?_
  refine zj_ireturn dL_lossWithout_18 rfl rfl ?_
  have h9 := h _ hF9.out hI9.out (fun _ => by dsimp only; rw [zU_eq])
  rw [q] at h9
  exact h9
theorem jL_offer {S : zLS} {x : Int32} {Q : Option Value → zM → Prop} {X : String → zM → Prop} {M : zM} (hI : zIc M S) (hP : zIp S) (h : ∀ M', zFrC M M' → zIc M' S → ((a_offer S.1.1 x).1 = 0 → M'.2.1 131 0 = (a_offer S.1.1 x).2.toInt64) → Q (some (.int (nI (a_offer S.1.1 x).1))) M') : zJG (zGH [(0, 9, 12, 32)]) yL_offer cL_offer 4 (some .int) rL_offer Q X rL_offer.cells rL_offer.slots 0 (zEnt 4 [.ref 99, .int x, .ref 131]) [] M := by
  show zJG (zGH [(0, 9, 12, 32)]) yL_offer cL_offer 4 (some .int) rL_offer Q X 1 6 0 [some (.ref 99), some (.int x), some (.ref 131), none] [] M
  refine zj_aload2 (n := 1) rfl dL_offer_0 ?_
  refine zj_iconstN_0 (n := 2) rfl dL_offer_1 ?_
  refine zj_aload0 (n := 3) rfl dL_offer_2 ?_
  refine zj_iload1 (n := 4) rfl dL_offer_3 ?_
  refine zj_callVH1 (n := 7) (a' := 0) (b' := 0) rfl dL_offer_4 zm_L_71 (by decide) (by decide) rfl (by decide) (Nat.le_of_ble_eq_true rfl) (Nat.le_of_ble_eq_true rfl) (Nat.le_of_ble_eq_true rfl) (jX9_offer hI.1 hP.1 (fun q => zHl_mk [] [] (0, 9, 12, 32) 3 1 rfl (by decide) (fun z hz => by cases hz) rfl (by decide) zlk_32 zlc_IOOBE (Or.inl ⟨3, rfl, dL_offer_12, rfl⟩) (by decide) (zj_iconstN_1 (n := 14) rfl dL_offer_13 (zj_ireturn dL_offer_14 rfl rfl (by have h9 := h M zFrC.rf (hI) (fun q0 => absurd q0 (by omega)); rw [q] at h9; exact h9)))) (fun q M9 hq9 => ?_))
  have hF9 := hq9.fC
  have hI9 := hI.q hq9
  refine zj_i2l (n := 8) rfl dL_offer_7 ?_
  refine zj_lastoreN (n := 9) rfl dL_offer_8 (by decide) rfl (by decide) ?_
  refine zj_goto (tgt := 15) dL_offer_9 (by decide) ?_
  refine zj_iconstN_0 (n := 16) rfl dL_offer_15 ?_
  refine zj_ireturn dL_offer_16 rfl rfl ?_
  have h9 := h _ hF9.out hI9.out (fun _ => by dsimp only; rw [zU_eq])
  rw [q] at h9
  exact h9
theorem jL_bids {S : zLS} {x : Int32} {Q : Option Value → zM → Prop} {X : String → zM → Prop} {M : zM} (hI : zIc M S) (hP : zIp S) (h : ∀ M', zFrC M M' → zIc M' S → ((a_bids S.1.1 x).1 = 0 → M'.2.1 131 0 = (a_bids S.1.1 x).2.toInt64) → Q (some (.int (nI (a_bids S.1.1 x).1))) M') : zJG (zGH [(0, 16, 19, 32)]) yL_bids cL_bids 4 (some .int) rL_bids Q X rL_bids.cells rL_bids.slots 0 (zEnt 4 [.ref 99, .int x, .ref 131]) [] M := by
  show zJG (zGH [(0, 16, 19, 32)]) yL_bids cL_bids 4 (some .int) rL_bids Q X 1 6 0 [some (.ref 99), some (.int x), some (.ref 131), none] [] M
  refine zj_aload2 (n := 1) rfl dL_bids_0 ?_
  refine zj_iconstN_0 (n := 2) rfl dL_bids_1 ?_
  refine zj_aload0 (n := 3) rfl dL_bids_2 ?_
  refine zj_iload1 (n := 4) rfl dL_bids_3 ?_
  refine zj_callVH1 (n := 7) (a' := 0) (b' := 0) rfl dL_bids_4 zm_L_74 (by decide) (by decide) rfl (by decide) (Nat.le_of_ble_eq_true rfl) (Nat.le_of_ble_eq_true rfl) (Nat.le_of_ble_eq_true rfl) (jX9_bids hI.1 hP.1 (fun q => zHl_mk [] [] (0, 16, 19, 32) 3 1 rfl (by decide) (fun z hz => by cases hz) rfl (by decide) zlk_32 zlc_IOOBE (Or.inl ⟨3, rfl, dL_bids_19, rfl⟩) (by decide) (zj_iconstN_1 (n := 21) rfl dL_bids_20 (zj_ireturn dL_bids_21 rfl rfl (by have h9 := h M zFrC.rf (hI) (fun q0 => absurd q0 (by omega)); rw [q] at h9; exact h9)))) (fun q M9 hq9 => ?_))
  have hF9 := hq9.fC
  have hI9 := hI.q hq9
  obtain ⟨b9, hb9⟩ := zq_bids (v := S.1.1) (x := x)
  rw [hb9]
  refine zj_ifB_eq (n := 10) (tgt := 14) rfl dL_bids_7 (by decide) (fun c7 => ?_) (fun c7 => ?_)
  · refine zj_lconstN_0 (n := 15) rfl dL_bids_14 ?_
    refine zj_lastoreN (n := 16) rfl dL_bids_15 (by decide) rfl (by decide) ?_
    refine zj_goto (tgt := 22) dL_bids_16 (by decide) ?_
    refine zj_iconstN_0 (n := 23) rfl dL_bids_22 ?_
    refine zj_ireturn dL_bids_23 rfl rfl ?_
    have h9 := h _ hF9.out hI9.out (fun _ => by dsimp only; rw [zU_eq, hb9, c7])
    rw [q] at h9
    exact h9
  · refine zj_lconstN_1 (n := 11) rfl dL_bids_10 ?_
    refine zj_goto (tgt := 15) dL_bids_11 (by decide) ?_
    refine zj_lastoreN (n := 16) rfl dL_bids_15 (by decide) rfl (by decide) ?_
    refine zj_goto (tgt := 22) dL_bids_16 (by decide) ?_
    refine zj_iconstN_0 (n := 23) rfl dL_bids_22 ?_
    refine zj_ireturn dL_bids_23 rfl rfl ?_
    have h9 := h _ hF9.out hI9.out (fun _ => by dsimp only; rw [zU_eq, hb9, c7])
    rw [q] at h9
    exact h9
theorem jL_target {S : zLS} {x : Int32} {Q : Option Value → zM → Prop} {X : String → zM → Prop} {M : zM} (hI : zIc M S) (hP : zIp S) (h : ∀ M', zFrC M M' → zIc M' S → ((a_target S.1.1 x).1 = 0 → M'.2.1 131 0 = (a_target S.1.1 x).2.toInt64) → Q (some (.int (nI (a_target S.1.1 x).1))) M') : zJG (zGH [(0, 9, 12, 32)]) yL_target cL_target 4 (some .int) rL_target Q X rL_target.cells rL_target.slots 0 (zEnt 4 [.ref 99, .int x, .ref 131]) [] M := by
  show zJG (zGH [(0, 9, 12, 32)]) yL_target cL_target 4 (some .int) rL_target Q X 1 6 0 [some (.ref 99), some (.int x), some (.ref 131), none] [] M
  refine zj_aload2 (n := 1) rfl dL_target_0 ?_
  refine zj_iconstN_0 (n := 2) rfl dL_target_1 ?_
  refine zj_aload0 (n := 3) rfl dL_target_2 ?_
  refine zj_iload1 (n := 4) rfl dL_target_3 ?_
  refine zj_callVH1 (n := 7) (a' := 0) (b' := 0) rfl dL_target_4 zm_L_78 (by decide) (by decide) rfl (by decide) (Nat.le_of_ble_eq_true rfl) (Nat.le_of_ble_eq_true rfl) (Nat.le_of_ble_eq_true rfl) (jX9_target hI.1 hP.1 (fun q => zHl_mk [] [] (0, 9, 12, 32) 3 1 rfl (by decide) (fun z hz => by cases hz) rfl (by decide) zlk_32 zlc_IOOBE (Or.inl ⟨3, rfl, dL_target_12, rfl⟩) (by decide) (zj_iconstN_1 (n := 14) rfl dL_target_13 (zj_ireturn dL_target_14 rfl rfl (by have h9 := h M zFrC.rf (hI) (fun q0 => absurd q0 (by omega)); rw [q] at h9; exact h9)))) (fun q M9 hq9 => ?_))
  have hF9 := hq9.fC
  have hI9 := hI.q hq9
  refine zj_i2l (n := 8) rfl dL_target_7 ?_
  refine zj_lastoreN (n := 9) rfl dL_target_8 (by decide) rfl (by decide) ?_
  refine zj_goto (tgt := 15) dL_target_9 (by decide) ?_
  refine zj_iconstN_0 (n := 16) rfl dL_target_15 ?_
  refine zj_ireturn dL_target_16 rfl rfl ?_
  have h9 := h _ hF9.out hI9.out (fun _ => by dsimp only; rw [zU_eq])
  rw [q] at h9
  exact h9
theorem jL_bidder {S : zLS} {x : Int32} {Q : Option Value → zM → Prop} {X : String → zM → Prop} {M : zM} (hI : zIc M S) (hP : zIp S) (h : ∀ M', zFrC M M' → zIc M' S → ((a_bidder S.1.1 x).1 = 0 → M'.2.1 131 0 = (a_bidder S.1.1 x).2.toInt64) → Q (some (.int (nI (a_bidder S.1.1 x).1))) M') : zJG (zGH [(0, 9, 12, 19)]) yL_bidder cL_bidder 4 (some .int) rL_bidder Q X rL_bidder.cells rL_bidder.slots 0 (zEnt 4 [.ref 99, .int x, .ref 131]) [] M := by
  show zJG (zGH [(0, 9, 12, 19)]) yL_bidder cL_bidder 4 (some .int) rL_bidder Q X 1 6 0 [some (.ref 99), some (.int x), some (.ref 131), none] [] M
  refine zj_aload2 (n := 1) rfl dL_bidder_0 ?_
  refine zj_iconstN_0 (n := 2) rfl dL_bidder_1 ?_
  refine zj_aload0 (n := 3) rfl dL_bidder_2 ?_
  refine zj_iload1 (n := 4) rfl dL_bidder_3 ?_
  refine zj_callVH1 (n := 7) (a' := 0) (b' := 0) rfl dL_bidder_4 zm_L_81 (by decide) (by decide) rfl (by decide) (Nat.le_of_ble_eq_true rfl) (Nat.le_of_ble_eq_true rfl) (Nat.le_of_ble_eq_true rfl) (jX9_bidder hI.1 hP.1 (fun q => zHl_mk [] [] (0, 9, 12, 19) 3 1 rfl (by decide) (fun z hz => by cases hz) rfl (by decide) zlk_19 zlc_IAE (Or.inl ⟨3, rfl, dL_bidder_12, rfl⟩) (by decide) (zj_iconstN_1 (n := 14) rfl dL_bidder_13 (zj_ireturn dL_bidder_14 rfl rfl (by have h9 := h M zFrC.rf (hI) (fun q0 => absurd q0 (by omega)); rw [q] at h9; exact h9)))) (fun q M9 hq9 => ?_))
  have hF9 := hq9.fC
  have hI9 := hI.q hq9
  refine zj_i2l (n := 8) rfl dL_bidder_7 ?_
  refine zj_lastoreN (n := 9) rfl dL_bidder_8 (by decide) rfl (by decide) ?_
  refine zj_goto (tgt := 15) dL_bidder_9 (by decide) ?_
  refine zj_iconstN_0 (n := 16) rfl dL_bidder_15 ?_
  refine zj_ireturn dL_bidder_16 rfl rfl ?_
  have h9 := h _ hF9.out hI9.out (fun _ => by dsimp only; rw [zU_eq])
  rw [q] at h9
  exact h9
theorem jL_outcome {S : zLS} {x z : Int32} {Q : Option Value → zM → Prop} {X : String → zM → Prop} {M : zM} (hI : zIc M S) (hP : zIp S) (h : ∀ M', zFrC M M' → zIc M' S → ((a_outcome S.1.1 x z).1 = 0 → M'.2.1 131 0 = (a_outcome S.1.1 x z).2.toInt64) → Q (some (.int (nI (a_outcome S.1.1 x z).1))) M') : zJG (zGH [(0, 10, 13, 32), (0, 10, 17, 19)]) yL_outcome cL_outcome 5 (some .int) rL_outcome Q X rL_outcome.cells rL_outcome.slots 0 (zEnt 5 [.ref 99, .int x, .int z, .ref 131]) [] M := by
  show zJG (zGH [(0, 10, 13, 32), (0, 10, 17, 19)]) yL_outcome cL_outcome 5 (some .int) rL_outcome Q X 2 12 0 [some (.ref 99), some (.int x), some (.int z), some (.ref 131), none] [] M
  refine zj_aload3 (n := 1) rfl dL_outcome_0 ?_
  refine zj_iconstN_0 (n := 2) rfl dL_outcome_1 ?_
  refine zj_aload0 (n := 3) rfl dL_outcome_2 ?_
  refine zj_iload1 (n := 4) rfl dL_outcome_3 ?_
  refine zj_iload2 (n := 5) rfl dL_outcome_4 ?_
  refine zj_callVH2 (n := 8) (a' := 0) (b' := 0) rfl dL_outcome_5 zm_L_84 (by decide) (by decide) rfl (by decide) (Nat.le_of_ble_eq_true rfl) (Nat.le_of_ble_eq_true rfl) (Nat.le_of_ble_eq_true rfl) (jX9_outcome hI.1 hP.1 (fun q => zHl_mk [] [(0, 10, 17, 19)] (0, 10, 13, 32) 4 2 rfl (by decide) (fun z hz => by cases hz) rfl (by decide) zlk_32 zlc_IOOBE (Or.inr ⟨dL_outcome_13, rfl⟩) (by decide) (zj_iconstN_1 (n := 16) rfl dL_outcome_15 (zj_ireturn dL_outcome_16 rfl rfl (by have h9 := h M zFrC.rf (hI) (fun q0 => absurd q0 (by omega)); rw [q] at h9; exact h9)))) (fun q => zHl_mk [(0, 10, 13, 32)] [] (0, 10, 17, 19) 4 2 rfl (by decide) (fun z hz => by rcases List.mem_singleton.mp hz with rfl; exact ⟨by decide, "java/lang/IndexOutOfBoundsException", by decide, by decide, zlk_32⟩) rfl (by decide) zlk_19 zlc_IAE (Or.inr ⟨dL_outcome_17, rfl⟩) (by decide) (zj_iconstN_2 (n := 20) rfl dL_outcome_19 (zj_ireturn dL_outcome_20 rfl rfl (by have h9 := h M zFrC.rf (hI) (fun q0 => absurd q0 (by omega)); rw [q] at h9; exact h9)))) (fun q M9 hq9 => ?_))
  have hF9 := hq9.fC
  have hI9 := hI.q hq9
  refine zj_i2l (n := 9) rfl dL_outcome_8 ?_
  refine zj_lastoreN (n := 10) rfl dL_outcome_9 (by decide) rfl (by decide) ?_
  refine zj_goto (tgt := 21) dL_outcome_10 (by decide) ?_
  refine zj_iconstN_0 (n := 22) rfl dL_outcome_21 ?_
  refine zj_ireturn dL_outcome_22 rfl rfl ?_
  have h9 := h _ hF9.out hI9.out (fun _ => by dsimp only; rw [zU_eq])
  rw [q] at h9
  exact h9
theorem jL_fail {S : zLS} {x : Int32} {Q : Option Value → zM → Prop} {X : String → zM → Prop} {M : zM} (hI : zIc M S) (hP : zIp S) (h : ∀ M', zFrC M M' → zIc M' (skeep (a_fail S.1.1 x).1 (vst S.1.1 (xn x) 1) S.1.1 S.1.2.1 S.1.2.2, S.2) → ((a_fail S.1.1 x).1 = 0 → M'.2.1 131 0 = (a_fail S.1.1 x).2.toInt64) → Q (some (.int (nI (a_fail S.1.1 x).1))) M') : zJG (zGH [(0, 9, 12, 32), (0, 9, 15, 13)]) yL_fail cL_fail 4 (some .int) rL_fail Q X rL_fail.cells rL_fail.slots 0 (zEnt 4 [.ref 99, .int x, .ref 131]) [] M := by
  show zJG (zGH [(0, 9, 12, 32), (0, 9, 15, 13)]) yL_fail cL_fail 4 (some .int) rL_fail Q X 2 12 0 [some (.ref 99), some (.int x), some (.ref 131), none] [] M
  refine zj_aload2 (n := 1) rfl dL_fail_0 ?_
  refine zj_iconstN_0 (n := 2) rfl dL_fail_1 ?_
  refine zj_aload0 (n := 3) rfl dL_fail_2 ?_
  refine zj_iload1 (n := 4) rfl dL_fail_3 ?_
  refine zj_callVH1 (n := 7) (a' := 0) (b' := 0) rfl dL_fail_4 zm_L_87 (by decide) (by decide) rfl (by decide) (Nat.le_of_ble_eq_true rfl) (Nat.le_of_ble_eq_true rfl) (Nat.le_of_ble_eq_true rfl) (jX9_fail hI.1 hP.1 hI.2.1 (fun q => zHl_mk [] [(0, 9, 15, 13)] (0, 9, 12, 32) 3 1 rfl (by decide) (fun z hz => by cases hz) rfl (by decide) zlk_32 zlc_IOOBE (Or.inl ⟨3, rfl, dL_fail_12, rfl⟩) (by decide) (zj_iconstN_1 (n := 14) rfl dL_fail_13 (zj_ireturn dL_fail_14 rfl rfl (by have h9 := h M zFrC.rf (by unfold skeep; rw [if_neg (by omega)]; exact hI) (fun q0 => absurd q0 (by omega)); rw [q] at h9; exact h9)))) (fun q => zHl_mk [(0, 9, 12, 32)] [] (0, 9, 15, 13) 3 1 rfl (by decide) (fun z hz => by rcases List.mem_singleton.mp hz with rfl; exact ⟨by decide, "java/lang/IndexOutOfBoundsException", by decide, by decide, zlk_32⟩) rfl (by decide) zlk_13 zlc_ISE (Or.inl ⟨3, rfl, dL_fail_15, rfl⟩) (by decide) (zj_iconstN_2 (n := 17) rfl dL_fail_16 (zj_ireturn dL_fail_17 rfl rfl (by have h9 := h M zFrC.rf (by unfold skeep; rw [if_neg (by omega)]; exact hI) (fun q0 => absurd q0 (by omega)); rw [q] at h9; exact h9)))) (fun q M9 hm9 hC9 hU9 => ?_))
  have hF9 := hm9.fC
  have hI9 : zIc M9 (skeep (a_fail S.1.1 x).1 (vst S.1.1 (xn x) 1) S.1.1 S.1.2.1 S.1.2.2, S.2) := by
    unfold skeep
    rw [if_pos q]
    exact hI.m (u := (_, _, _)) hm9 hC9 hU9
  refine zj_i2l (n := 8) rfl dL_fail_7 ?_
  refine zj_lastoreN (n := 9) rfl dL_fail_8 (by decide) rfl (by decide) ?_
  refine zj_goto (tgt := 18) dL_fail_9 (by decide) ?_
  refine zj_iconstN_0 (n := 19) rfl dL_fail_18 ?_
  refine zj_ireturn dL_fail_19 rfl rfl ?_
  have h9 := h _ hF9.out hI9.out (fun _ => by dsimp only; rw [zU_eq])
  rw [q] at h9
  exact h9
theorem jL_recover {S : zLS} {x : Int32} {Q : Option Value → zM → Prop} {X : String → zM → Prop} {M : zM} (hI : zIc M S) (hP : zIp S) (h : ∀ M', zFrC M M' → zIc M' (skeep (a_recover S.1.1 x).1 (vst S.1.1 (xn x) 0) S.1.1 S.1.2.1 S.1.2.2, S.2) → ((a_recover S.1.1 x).1 = 0 → M'.2.1 131 0 = (a_recover S.1.1 x).2.toInt64) → Q (some (.int (nI (a_recover S.1.1 x).1))) M') : zJG (zGH [(0, 9, 12, 32), (0, 9, 15, 13)]) yL_recover cL_recover 4 (some .int) rL_recover Q X rL_recover.cells rL_recover.slots 0 (zEnt 4 [.ref 99, .int x, .ref 131]) [] M := by
  show zJG (zGH [(0, 9, 12, 32), (0, 9, 15, 13)]) yL_recover cL_recover 4 (some .int) rL_recover Q X 2 12 0 [some (.ref 99), some (.int x), some (.ref 131), none] [] M
  refine zj_aload2 (n := 1) rfl dL_recover_0 ?_
  refine zj_iconstN_0 (n := 2) rfl dL_recover_1 ?_
  refine zj_aload0 (n := 3) rfl dL_recover_2 ?_
  refine zj_iload1 (n := 4) rfl dL_recover_3 ?_
  refine zj_callVH1 (n := 7) (a' := 0) (b' := 0) rfl dL_recover_4 zm_L_90 (by decide) (by decide) rfl (by decide) (Nat.le_of_ble_eq_true rfl) (Nat.le_of_ble_eq_true rfl) (Nat.le_of_ble_eq_true rfl) (jX9_recover hI.1 hP.1 hI.2.1 (fun q => zHl_mk [] [(0, 9, 15, 13)] (0, 9, 12, 32) 3 1 rfl (by decide) (fun z hz => by cases hz) rfl (by decide) zlk_32 zlc_IOOBE (Or.inl ⟨3, rfl, dL_recover_12, rfl⟩) (by decide) (zj_iconstN_1 (n := 14) rfl dL_recover_13 (zj_ireturn dL_recover_14 rfl rfl (by have h9 := h M zFrC.rf (by unfold skeep; rw [if_neg (by omega)]; exact hI) (fun q0 => absurd q0 (by omega)); rw [q] at h9; exact h9)))) (fun q => zHl_mk [(0, 9, 12, 32)] [] (0, 9, 15, 13) 3 1 rfl (by decide) (fun z hz => by rcases List.mem_singleton.mp hz with rfl; exact ⟨by decide, "java/lang/IndexOutOfBoundsException", by decide, by decide, zlk_32⟩) rfl (by decide) zlk_13 zlc_ISE (Or.inl ⟨3, rfl, dL_recover_15, rfl⟩) (by decide) (zj_iconstN_2 (n := 17) rfl dL_recover_16 (zj_ireturn dL_recover_17 rfl rfl (by have h9 := h M zFrC.rf (by unfold skeep; rw [if_neg (by omega)]; exact hI) (fun q0 => absurd q0 (by omega)); rw [q] at h9; exact h9)))) (fun q M9 hm9 hC9 hU9 => ?_))
  have hF9 := hm9.fC
  have hI9 : zIc M9 (skeep (a_recover S.1.1 x).1 (vst S.1.1 (xn x) 0) S.1.1 S.1.2.1 S.1.2.2, S.2) := by
    unfold skeep
    rw [if_pos q]
    exact hI.m (u := (_, _, _)) hm9 hC9 hU9
  refine zj_i2l (n := 8) rfl dL_recover_7 ?_
  refine zj_lastoreN (n := 9) rfl dL_recover_8 (by decide) rfl (by decide) ?_
  refine zj_goto (tgt := 18) dL_recover_9 (by decide) ?_
  refine zj_iconstN_0 (n := 19) rfl dL_recover_18 ?_
  refine zj_ireturn dL_recover_19 rfl rfl ?_
  have h9 := h _ hF9.out hI9.out (fun _ => by dsimp only; rw [zU_eq])
  rw [q] at h9
  exact h9
theorem jL_drain {S : zLS} {x : Int32} {b : Bool} {Q : Option Value → zM → Prop} {X : String → zM → Prop} {M : zM} (hI : zIc M S) (hP : zIp S) (h : ∀ M', zFrC M M' → zIc M' (skeep (a_drain S.1.1 x b).1 (vst S.1.1 (xn x) (if b then 2 else 0)) S.1.1 S.1.2.1 S.1.2.2, S.2) → ((a_drain S.1.1 x b).1 = 0 → M'.2.1 131 0 = (a_drain S.1.1 x b).2.toInt64) → Q (some (.int (nI (a_drain S.1.1 x b).1))) M') : zJG (zGH [(0, 10, 13, 32), (0, 10, 17, 13)]) yL_drain cL_drain 5 (some .int) rL_drain Q X rL_drain.cells rL_drain.slots 0 (zEnt 5 [.ref 99, .int x, .int (zb b), .ref 131]) [] M := by
  show zJG (zGH [(0, 10, 13, 32), (0, 10, 17, 13)]) yL_drain cL_drain 5 (some .int) rL_drain Q X 2 12 0 [some (.ref 99), some (.int x), some (.int (zb b)), some (.ref 131), none] [] M
  refine zj_aload3 (n := 1) rfl dL_drain_0 ?_
  refine zj_iconstN_0 (n := 2) rfl dL_drain_1 ?_
  refine zj_aload0 (n := 3) rfl dL_drain_2 ?_
  refine zj_iload1 (n := 4) rfl dL_drain_3 ?_
  refine zj_iload2 (n := 5) rfl dL_drain_4 ?_
  refine zj_callVH2 (n := 8) (a' := 0) (b' := 0) rfl dL_drain_5 zm_L_93 (by decide) (by decide) rfl (by decide) (Nat.le_of_ble_eq_true rfl) (Nat.le_of_ble_eq_true rfl) (Nat.le_of_ble_eq_true rfl) (jX9_drain hI.1 hP.1 hI.2.1 (fun q => zHl_mk [] [(0, 10, 17, 13)] (0, 10, 13, 32) 4 2 rfl (by decide) (fun z hz => by cases hz) rfl (by decide) zlk_32 zlc_IOOBE (Or.inr ⟨dL_drain_13, rfl⟩) (by decide) (zj_iconstN_1 (n := 16) rfl dL_drain_15 (zj_ireturn dL_drain_16 rfl rfl (by have h9 := h M zFrC.rf (by unfold skeep; rw [if_neg (by omega)]; exact hI) (fun q0 => absurd q0 (by omega)); rw [q] at h9; exact h9)))) (fun q => zHl_mk [(0, 10, 13, 32)] [] (0, 10, 17, 13) 4 2 rfl (by decide) (fun z hz => by rcases List.mem_singleton.mp hz with rfl; exact ⟨by decide, "java/lang/IndexOutOfBoundsException", by decide, by decide, zlk_32⟩) rfl (by decide) zlk_13 zlc_ISE (Or.inr ⟨dL_drain_17, rfl⟩) (by decide) (zj_iconstN_2 (n := 20) rfl dL_drain_19 (zj_ireturn dL_drain_20 rfl rfl (by have h9 := h M zFrC.rf (by unfold skeep; rw [if_neg (by omega)]; exact hI) (fun q0 => absurd q0 (by omega)); rw [q] at h9; exact h9)))) (fun q M9 hm9 hC9 hU9 => ?_))
  have hF9 := hm9.fC
  have hI9 : zIc M9 (skeep (a_drain S.1.1 x b).1 (vst S.1.1 (xn x) (if b then 2 else 0)) S.1.1 S.1.2.1 S.1.2.2, S.2) := by
    unfold skeep
    rw [if_pos q]
    exact hI.m (u := (_, _, _)) hm9 hC9 hU9
  refine zj_i2l (n := 9) rfl dL_drain_8 ?_
  refine zj_lastoreN (n := 10) rfl dL_drain_9 (by decide) rfl (by decide) ?_
  refine zj_goto (tgt := 21) dL_drain_10 (by decide) ?_
  refine zj_iconstN_0 (n := 22) rfl dL_drain_21 ?_
  refine zj_ireturn dL_drain_22 rfl rfl ?_
  have h9 := h _ hF9.out hI9.out (fun _ => by dsimp only; rw [zU_eq])
  rw [q] at h9
  exact h9
theorem jL_rounds {S : zLS} {x : Int32} {Q : Option Value → zM → Prop} {X : String → zM → Prop} {M : zM} (hI : zIc M S) (hP : zIp S) (h : ∀ M', zFrC M M' → zIc M' (skeep (a_rounds S.1.1 x).1 (vrs S.1.1 (xn x)) S.1.1 S.1.2.1 S.1.2.2, S.2) → ((a_rounds S.1.1 x).1 = 0 → M'.2.1 131 0 = (a_rounds S.1.1 x).2.toInt64) → Q (some (.int (nI (a_rounds S.1.1 x).1))) M') : zJG (zGH [(0, 9, 12, 19)]) yL_rounds cL_rounds 4 (some .int) rL_rounds Q X rL_rounds.cells rL_rounds.slots 0 (zEnt 4 [.ref 99, .int x, .ref 131]) [] M := by
  show zJG (zGH [(0, 9, 12, 19)]) yL_rounds cL_rounds 4 (some .int) rL_rounds Q X 1 6 0 [some (.ref 99), some (.int x), some (.ref 131), none] [] M
  refine zj_aload2 (n := 1) rfl dL_rounds_0 ?_
  refine zj_iconstN_0 (n := 2) rfl dL_rounds_1 ?_
  refine zj_aload0 (n := 3) rfl dL_rounds_2 ?_
  refine zj_iload1 (n := 4) rfl dL_rounds_3 ?_
  refine zj_callVH1 (n := 7) (a' := 0) (b' := 0) rfl dL_rounds_4 zm_L_97 (by decide) (by decide) rfl (by decide) (Nat.le_of_ble_eq_true rfl) (Nat.le_of_ble_eq_true rfl) (Nat.le_of_ble_eq_true rfl) (jX9_rounds hI.1 hP.1 hI.2.1 (fun q => zHl_mk [] [] (0, 9, 12, 19) 3 1 rfl (by decide) (fun z hz => by cases hz) rfl (by decide) zlk_19 zlc_IAE (Or.inl ⟨3, rfl, dL_rounds_12, rfl⟩) (by decide) (zj_iconstN_1 (n := 14) rfl dL_rounds_13 (zj_ireturn dL_rounds_14 rfl rfl (by have h9 := h M zFrC.rf (by unfold skeep; rw [if_neg (by omega)]; exact hI) (fun q0 => absurd q0 (by omega)); rw [q] at h9; exact h9)))) (fun q M9 hm9 hC9 hU9 => ?_))
  have hF9 := hm9.fC
  have hI9 : zIc M9 (skeep (a_rounds S.1.1 x).1 (vrs S.1.1 (xn x)) S.1.1 S.1.2.1 S.1.2.2, S.2) := by
    unfold skeep
    rw [if_pos q]
    exact hI.m (u := (_, _, _)) hm9 hC9 hU9
  refine zj_i2l (n := 8) rfl dL_rounds_7 ?_
  refine zj_lastoreN (n := 9) rfl dL_rounds_8 (by decide) rfl (by decide) ?_
  refine zj_goto (tgt := 15) dL_rounds_9 (by decide) ?_
  refine zj_iconstN_0 (n := 16) rfl dL_rounds_15 ?_
  refine zj_ireturn dL_rounds_16 rfl rfl ?_
  have h9 := h _ hF9.out hI9.out (fun _ => by dsimp only; rw [zU_eq])
  rw [q] at h9
  exact h9
theorem jL_setRisk {S : zLS} {x z : Int32} {Q : Option Value → zM → Prop} {X : String → zM → Prop} {M : zM} (hI : zIc M S) (hP : zIp S) (h : ∀ M', zFrC M M' → zIc M' (skeep (a_setRisk S.1.1 x z).1 (vset S.1.1 (10 + 12 * xn x + 2) (xn z)) S.1.1 S.1.2.1 S.1.2.2, S.2) → ((a_setRisk S.1.1 x z).1 = 0 → M'.2.1 131 0 = (a_setRisk S.1.1 x z).2.toInt64) → Q (some (.int (nI (a_setRisk S.1.1 x z).1))) M') : zJG (zGH [(0, 10, 13, 32), (0, 10, 17, 19)]) yL_setRisk cL_setRisk 5 (some .int) rL_setRisk Q X rL_setRisk.cells rL_setRisk.slots 0 (zEnt 5 [.ref 99, .int x, .int z, .ref 131]) [] M := by
  show zJG (zGH [(0, 10, 13, 32), (0, 10, 17, 19)]) yL_setRisk cL_setRisk 5 (some .int) rL_setRisk Q X 2 12 0 [some (.ref 99), some (.int x), some (.int z), some (.ref 131), none] [] M
  refine zj_aload3 (n := 1) rfl dL_setRisk_0 ?_
  refine zj_iconstN_0 (n := 2) rfl dL_setRisk_1 ?_
  refine zj_aload0 (n := 3) rfl dL_setRisk_2 ?_
  refine zj_iload1 (n := 4) rfl dL_setRisk_3 ?_
  refine zj_iload2 (n := 5) rfl dL_setRisk_4 ?_
  refine zj_callVH2 (n := 8) (a' := 0) (b' := 0) rfl dL_setRisk_5 zm_L_100 (by decide) (by decide) rfl (by decide) (Nat.le_of_ble_eq_true rfl) (Nat.le_of_ble_eq_true rfl) (Nat.le_of_ble_eq_true rfl) (jX9_setRisk hI.1 hP.1 hI.2.1 (fun q => zHl_mk [] [(0, 10, 17, 19)] (0, 10, 13, 32) 4 2 rfl (by decide) (fun z hz => by cases hz) rfl (by decide) zlk_32 zlc_IOOBE (Or.inr ⟨dL_setRisk_13, rfl⟩) (by decide) (zj_iconstN_1 (n := 16) rfl dL_setRisk_15 (zj_ireturn dL_setRisk_16 rfl rfl (by have h9 := h M zFrC.rf (by unfold skeep; rw [if_neg (by omega)]; exact hI) (fun q0 => absurd q0 (by omega)); rw [q] at h9; exact h9)))) (fun q => zHl_mk [(0, 10, 13, 32)] [] (0, 10, 17, 19) 4 2 rfl (by decide) (fun z hz => by rcases List.mem_singleton.mp hz with rfl; exact ⟨by decide, "java/lang/IndexOutOfBoundsException", by decide, by decide, zlk_32⟩) rfl (by decide) zlk_19 zlc_IAE (Or.inr ⟨dL_setRisk_17, rfl⟩) (by decide) (zj_iconstN_2 (n := 20) rfl dL_setRisk_19 (zj_ireturn dL_setRisk_20 rfl rfl (by have h9 := h M zFrC.rf (by unfold skeep; rw [if_neg (by omega)]; exact hI) (fun q0 => absurd q0 (by omega)); rw [q] at h9; exact h9)))) (fun q M9 hm9 hC9 hU9 => ?_))
  have hF9 := hm9.fC
  have hI9 : zIc M9 (skeep (a_setRisk S.1.1 x z).1 (vset S.1.1 (10 + 12 * xn x + 2) (xn z)) S.1.1 S.1.2.1 S.1.2.2, S.2) := by
    unfold skeep
    rw [if_pos q]
    exact hI.m (u := (_, _, _)) hm9 hC9 hU9
  refine zj_i2l (n := 9) rfl dL_setRisk_8 ?_
  refine zj_lastoreN (n := 10) rfl dL_setRisk_9 (by decide) rfl (by decide) ?_
  refine zj_goto (tgt := 21) dL_setRisk_10 (by decide) ?_
  refine zj_iconstN_0 (n := 22) rfl dL_setRisk_21 ?_
  refine zj_ireturn dL_setRisk_22 rfl rfl ?_
  have h9 := h _ hF9.out hI9.out (fun _ => by dsimp only; rw [zU_eq])
  rw [q] at h9
  exact h9
theorem jL_setBandwidth {S : zLS} {x : Int32} {Q : Option Value → zM → Prop} {X : String → zM → Prop} {M : zM} (hI : zIc M S) (hP : zIp S) (h : ∀ M', zFrC M M' → zIc M' (skeep (a_setBandwidth S.1.1 x).1 (vset S.1.1 0 (xn x)) S.1.1 S.1.2.1 S.1.2.2, S.2) → ((a_setBandwidth S.1.1 x).1 = 0 → M'.2.1 131 0 = (a_setBandwidth S.1.1 x).2.toInt64) → Q (some (.int (nI (a_setBandwidth S.1.1 x).1))) M') : zJG (zGH [(0, 9, 12, 19)]) yL_setBandwidth cL_setBandwidth 4 (some .int) rL_setBandwidth Q X rL_setBandwidth.cells rL_setBandwidth.slots 0 (zEnt 4 [.ref 99, .int x, .ref 131]) [] M := by
  show zJG (zGH [(0, 9, 12, 19)]) yL_setBandwidth cL_setBandwidth 4 (some .int) rL_setBandwidth Q X 1 6 0 [some (.ref 99), some (.int x), some (.ref 131), none] [] M
  refine zj_aload2 (n := 1) rfl dL_setBandwidth_0 ?_
  refine zj_iconstN_0 (n := 2) rfl dL_setBandwidth_1 ?_
  refine zj_aload0 (n := 3) rfl dL_setBandwidth_2 ?_
  refine zj_iload1 (n := 4) rfl dL_setBandwidth_3 ?_
  refine zj_callVH1 (n := 7) (a' := 0) (b' := 0) rfl dL_setBandwidth_4 zm_L_103 (by decide) (by decide) rfl (by decide) (Nat.le_of_ble_eq_true rfl) (Nat.le_of_ble_eq_true rfl) (Nat.le_of_ble_eq_true rfl) (jX9_setBandwidth hI.1 hP.1 hI.2.1 (fun q => zHl_mk [] [] (0, 9, 12, 19) 3 1 rfl (by decide) (fun z hz => by cases hz) rfl (by decide) zlk_19 zlc_IAE (Or.inl ⟨3, rfl, dL_setBandwidth_12, rfl⟩) (by decide) (zj_iconstN_1 (n := 14) rfl dL_setBandwidth_13 (zj_ireturn dL_setBandwidth_14 rfl rfl (by have h9 := h M zFrC.rf (by unfold skeep; rw [if_neg (by omega)]; exact hI) (fun q0 => absurd q0 (by omega)); rw [q] at h9; exact h9)))) (fun q M9 hm9 hC9 hU9 => ?_))
  have hF9 := hm9.fC
  have hI9 : zIc M9 (skeep (a_setBandwidth S.1.1 x).1 (vset S.1.1 0 (xn x)) S.1.1 S.1.2.1 S.1.2.2, S.2) := by
    unfold skeep
    rw [if_pos q]
    exact hI.m (u := (_, _, _)) hm9 hC9 hU9
  refine zj_i2l (n := 8) rfl dL_setBandwidth_7 ?_
  refine zj_lastoreN (n := 9) rfl dL_setBandwidth_8 (by decide) rfl (by decide) ?_
  refine zj_goto (tgt := 15) dL_setBandwidth_9 (by decide) ?_
  refine zj_iconstN_0 (n := 16) rfl dL_setBandwidth_15 ?_
  refine zj_ireturn dL_setBandwidth_16 rfl rfl ?_
  have h9 := h _ hF9.out hI9.out (fun _ => by dsimp only; rw [zU_eq])
  rw [q] at h9
  exact h9
theorem jL_setRule {S : zLS} {x : Int32} {Q : Option Value → zM → Prop} {X : String → zM → Prop} {M : zM} (hI : zIc M S) (hP : zIp S) (h : ∀ M', zFrC M M' → zIc M' (skeep (a_setRule S.1.1 x).1 (vset S.1.1 3 (xn x)) S.1.1 S.1.2.1 S.1.2.2, S.2) → ((a_setRule S.1.1 x).1 = 0 → M'.2.1 131 0 = (a_setRule S.1.1 x).2.toInt64) → Q (some (.int (nI (a_setRule S.1.1 x).1))) M') : zJG (zGH [(0, 9, 12, 19)]) yL_setRule cL_setRule 4 (some .int) rL_setRule Q X rL_setRule.cells rL_setRule.slots 0 (zEnt 4 [.ref 99, .int x, .ref 131]) [] M := by
  show zJG (zGH [(0, 9, 12, 19)]) yL_setRule cL_setRule 4 (some .int) rL_setRule Q X 1 6 0 [some (.ref 99), some (.int x), some (.ref 131), none] [] M
  refine zj_aload2 (n := 1) rfl dL_setRule_0 ?_
  refine zj_iconstN_0 (n := 2) rfl dL_setRule_1 ?_
  refine zj_aload0 (n := 3) rfl dL_setRule_2 ?_
  refine zj_iload1 (n := 4) rfl dL_setRule_3 ?_
  refine zj_callVH1 (n := 7) (a' := 0) (b' := 0) rfl dL_setRule_4 zm_L_106 (by decide) (by decide) rfl (by decide) (Nat.le_of_ble_eq_true rfl) (Nat.le_of_ble_eq_true rfl) (Nat.le_of_ble_eq_true rfl) (jX9_setRule hI.1 hP.1 hI.2.1 (fun q => zHl_mk [] [] (0, 9, 12, 19) 3 1 rfl (by decide) (fun z hz => by cases hz) rfl (by decide) zlk_19 zlc_IAE (Or.inl ⟨3, rfl, dL_setRule_12, rfl⟩) (by decide) (zj_iconstN_1 (n := 14) rfl dL_setRule_13 (zj_ireturn dL_setRule_14 rfl rfl (by have h9 := h M zFrC.rf (by unfold skeep; rw [if_neg (by omega)]; exact hI) (fun q0 => absurd q0 (by omega)); rw [q] at h9; exact h9)))) (fun q M9 hm9 hC9 hU9 => ?_))
  have hF9 := hm9.fC
  have hI9 : zIc M9 (skeep (a_setRule S.1.1 x).1 (vset S.1.1 3 (xn x)) S.1.1 S.1.2.1 S.1.2.2, S.2) := by
    unfold skeep
    rw [if_pos q]
    exact hI.m (u := (_, _, _)) hm9 hC9 hU9
  refine zj_i2l (n := 8) rfl dL_setRule_7 ?_
  refine zj_lastoreN (n := 9) rfl dL_setRule_8 (by decide) rfl (by decide) ?_
  refine zj_goto (tgt := 15) dL_setRule_9 (by decide) ?_
  refine zj_iconstN_0 (n := 16) rfl dL_setRule_15 ?_
  refine zj_ireturn dL_setRule_16 rfl rfl ?_
  have h9 := h _ hF9.out hI9.out (fun _ => by dsimp only; rw [zU_eq])
  rw [q] at h9
  exact h9
theorem jL_grant {S : zLS} {x z : Int32} {Q : Option Value → zM → Prop} {X : String → zM → Prop} {M : zM} (hI : zIc M S) (hP : zIp S) (h : ∀ M', zFrC M M' → zIc M' (skeep (a_grant S.1.1 x z).1 (vset S.1.1 (202 + 11 * xn x + 2) (S.1.1 (202 + 11 * xn x + 2) + xn z)) S.1.1 S.1.2.1 S.1.2.2, S.2) → ((a_grant S.1.1 x z).1 = 0 → M'.2.1 131 0 = (a_grant S.1.1 x z).2.toInt64) → Q (some (.int (nI (a_grant S.1.1 x z).1))) M') : zJG (zGH [(0, 10, 13, 32), (0, 10, 17, 19), (0, 10, 21, 13)]) yL_grant cL_grant 5 (some .int) rL_grant Q X rL_grant.cells rL_grant.slots 0 (zEnt 5 [.ref 99, .int x, .int z, .ref 131]) [] M := by
  show zJG (zGH [(0, 10, 13, 32), (0, 10, 17, 19), (0, 10, 21, 13)]) yL_grant cL_grant 5 (some .int) rL_grant Q X 3 18 0 [some (.ref 99), some (.int x), some (.int z), some (.ref 131), none] [] M
  refine zj_aload3 (n := 1) rfl dL_grant_0 ?_
  refine zj_iconstN_0 (n := 2) rfl dL_grant_1 ?_
  refine zj_aload0 (n := 3) rfl dL_grant_2 ?_
  refine zj_iload1 (n := 4) rfl dL_grant_3 ?_
  refine zj_iload2 (n := 5) rfl dL_grant_4 ?_
  refine zj_callVH2 (n := 8) (a' := 0) (b' := 0) rfl dL_grant_5 zm_L_109 (by decide) (by decide) rfl (by decide) (Nat.le_of_ble_eq_true rfl) (Nat.le_of_ble_eq_true rfl) (Nat.le_of_ble_eq_true rfl) (jX9_grant hI.1 hP.1 hI.2.1 (fun q => zHl_mk [] [(0, 10, 17, 19), (0, 10, 21, 13)] (0, 10, 13, 32) 4 2 rfl (by decide) (fun z hz => by cases hz) rfl (by decide) zlk_32 zlc_IOOBE (Or.inr ⟨dL_grant_13, rfl⟩) (by decide) (zj_iconstN_1 (n := 16) rfl dL_grant_15 (zj_ireturn dL_grant_16 rfl rfl (by have h9 := h M zFrC.rf (by unfold skeep; rw [if_neg (by omega)]; exact hI) (fun q0 => absurd q0 (by omega)); rw [q] at h9; exact h9)))) (fun q => zHl_mk [(0, 10, 13, 32)] [(0, 10, 21, 13)] (0, 10, 17, 19) 4 2 rfl (by decide) (fun z hz => by rcases List.mem_singleton.mp hz with rfl; exact ⟨by decide, "java/lang/IndexOutOfBoundsException", by decide, by decide, zlk_32⟩) rfl (by decide) zlk_19 zlc_IAE (Or.inr ⟨dL_grant_17, rfl⟩) (by decide) (zj_iconstN_2 (n := 20) rfl dL_grant_19 (zj_ireturn dL_grant_20 rfl rfl (by have h9 := h M zFrC.rf (by unfold skeep; rw [if_neg (by omega)]; exact hI) (fun q0 => absurd q0 (by omega)); rw [q] at h9; exact h9)))) (fun q => zHl_mk [(0, 10, 13, 32), (0, 10, 17, 19)] [] (0, 10, 21, 13) 4 2 rfl (by decide) (fun z hz => by
      rcases List.mem_cons.mp hz with rfl | hz
      · exact ⟨by decide, "java/lang/IndexOutOfBoundsException", by decide, by decide, zlk_32⟩
      · rcases List.mem_singleton.mp hz with rfl
        exact ⟨by decide, "java/lang/IllegalArgumentException", by decide, by decide, zlk_19⟩) rfl (by decide) zlk_13 zlc_ISE (Or.inr ⟨dL_grant_21, rfl⟩) (by decide) (zj_iconstN_3 (n := 24) rfl dL_grant_23 (zj_ireturn dL_grant_24 rfl rfl (by have h9 := h M zFrC.rf (by unfold skeep; rw [if_neg (by omega)]; exact hI) (fun q0 => absurd q0 (by omega)); rw [q] at h9; exact h9)))) (fun q M9 hm9 hC9 hU9 => ?_))
  have hF9 := hm9.fC
  have hI9 : zIc M9 (skeep (a_grant S.1.1 x z).1 (vset S.1.1 (202 + 11 * xn x + 2) (S.1.1 (202 + 11 * xn x + 2) + xn z)) S.1.1 S.1.2.1 S.1.2.2, S.2) := by
    unfold skeep
    rw [if_pos q]
    exact hI.m (u := (_, _, _)) hm9 hC9 hU9
  refine zj_i2l (n := 9) rfl dL_grant_8 ?_
  refine zj_lastoreN (n := 10) rfl dL_grant_9 (by decide) rfl (by decide) ?_
  refine zj_goto (tgt := 25) dL_grant_10 (by decide) ?_
  refine zj_iconstN_0 (n := 26) rfl dL_grant_25 ?_
  refine zj_ireturn dL_grant_26 rfl rfl ?_
  have h9 := h _ hF9.out hI9.out (fun _ => by dsimp only; rw [zU_eq])
  rw [q] at h9
  exact h9
theorem jL_move {S : zLS} {x z t : Int32} {Q : Option Value → zM → Prop} {X : String → zM → Prop} {M : zM} (hI : zIc M S) (hP : zIp S) (h : ∀ M', zFrC M M' → zIc M' (skeep (a_move S.1.1 x z t).1 (vset S.1.1 (268 + 23 * xn x + 7 + xn z) (xn t)) S.1.1 S.1.2.1 S.1.2.2, S.2) → ((a_move S.1.1 x z t).1 = 0 → M'.2.1 131 0 = (a_move S.1.1 x z t).2.toInt64) → Q (some (.int (nI (a_move S.1.1 x z t).1))) M') : zJG (zGH [(0, 12, 15, 32), (0, 12, 19, 13)]) yL_move cL_move 6 (some .int) rL_move Q X rL_move.cells rL_move.slots 0 (zEnt 6 [.ref 99, .int x, .int z, .int t, .ref 131]) [] M := by
  show zJG (zGH [(0, 12, 15, 32), (0, 12, 19, 13)]) yL_move cL_move 6 (some .int) rL_move Q X 4 24 0 [some (.ref 99), some (.int x), some (.int z), some (.int t), some (.ref 131), none] [] M
  refine zj_aload4 (n := 2) rfl dL_move_0 ?_
  refine zj_iconstN_0 (n := 3) rfl dL_move_2 ?_
  refine zj_aload0 (n := 4) rfl dL_move_3 ?_
  refine zj_iload1 (n := 5) rfl dL_move_4 ?_
  refine zj_iload2 (n := 6) rfl dL_move_5 ?_
  refine zj_iload3 (n := 7) rfl dL_move_6 ?_
  refine zj_callVH3 (n := 10) (a' := 0) (b' := 0) rfl dL_move_7 zm_L_112 (by decide) (by decide) rfl (by decide) (Nat.le_of_ble_eq_true rfl) (Nat.le_of_ble_eq_true rfl) (Nat.le_of_ble_eq_true rfl) (jX9_move hI.1 hP.1 hI.2.1 (fun q => zHl_mk [] [(0, 12, 19, 13)] (0, 12, 15, 32) 5 2 rfl (by decide) (fun z hz => by cases hz) rfl (by decide) zlk_32 zlc_IOOBE (Or.inr ⟨dL_move_15, rfl⟩) (by decide) (zj_iconstN_1 (n := 18) rfl dL_move_17 (zj_ireturn dL_move_18 rfl rfl (by have h9 := h M zFrC.rf (by unfold skeep; rw [if_neg (by omega)]; exact hI) (fun q0 => absurd q0 (by omega)); rw [q] at h9; exact h9)))) (fun q => zHl_mk [(0, 12, 15, 32)] [] (0, 12, 19, 13) 5 2 rfl (by decide) (fun z hz => by rcases List.mem_singleton.mp hz with rfl; exact ⟨by decide, "java/lang/IndexOutOfBoundsException", by decide, by decide, zlk_32⟩) rfl (by decide) zlk_13 zlc_ISE (Or.inr ⟨dL_move_19, rfl⟩) (by decide) (zj_iconstN_2 (n := 22) rfl dL_move_21 (zj_ireturn dL_move_22 rfl rfl (by have h9 := h M zFrC.rf (by unfold skeep; rw [if_neg (by omega)]; exact hI) (fun q0 => absurd q0 (by omega)); rw [q] at h9; exact h9)))) (fun q M9 hm9 hC9 hU9 => ?_))
  have hF9 := hm9.fC
  have hI9 : zIc M9 (skeep (a_move S.1.1 x z t).1 (vset S.1.1 (268 + 23 * xn x + 7 + xn z) (xn t)) S.1.1 S.1.2.1 S.1.2.2, S.2) := by
    unfold skeep
    rw [if_pos q]
    exact hI.m (u := (_, _, _)) hm9 hC9 hU9
  refine zj_i2l (n := 11) rfl dL_move_10 ?_
  refine zj_lastoreN (n := 12) rfl dL_move_11 (by decide) rfl (by decide) ?_
  refine zj_goto (tgt := 23) dL_move_12 (by decide) ?_
  refine zj_iconstN_0 (n := 24) rfl dL_move_23 ?_
  refine zj_ireturn dL_move_24 rfl rfl ?_
  have h9 := h _ hF9.out hI9.out (fun _ => by dsimp only; rw [zU_eq])
  rw [q] at h9
  exact h9
theorem jL_lostBy {S : zLS} {x : Int32} {Q : Option Value → zM → Prop} {X : String → zM → Prop} {M : zM} (hI : zIc M S) (hP : zIp S) (h : ∀ M', zFrC M M' → zIc M' S → ((a_lostBy S.1.1 x).1 = 0 → M'.2.1 131 0 = (a_lostBy S.1.1 x).2.toInt64) → Q (some (.int (nI (a_lostBy S.1.1 x).1))) M') : zJG (zGH [(0, 9, 12, 19)]) yL_lostBy cL_lostBy 4 (some .int) rL_lostBy Q X rL_lostBy.cells rL_lostBy.slots 0 (zEnt 4 [.ref 99, .int x, .ref 131]) [] M := by
  show zJG (zGH [(0, 9, 12, 19)]) yL_lostBy cL_lostBy 4 (some .int) rL_lostBy Q X 1 6 0 [some (.ref 99), some (.int x), some (.ref 131), none] [] M
  refine zj_aload2 (n := 1) rfl dL_lostBy_0 ?_
  refine zj_iconstN_0 (n := 2) rfl dL_lostBy_1 ?_
  refine zj_aload0 (n := 3) rfl dL_lostBy_2 ?_
  refine zj_iload1 (n := 4) rfl dL_lostBy_3 ?_
  refine zj_callVH1 (n := 7) (a' := 0) (b' := 0) rfl dL_lostBy_4 zm_L_116 (by decide) (by decide) rfl (by decide) (Nat.le_of_ble_eq_true rfl) (Nat.le_of_ble_eq_true rfl) (Nat.le_of_ble_eq_true rfl) (jX9_lostBy hI.1 hP.1 (fun q => zHl_mk [] [] (0, 9, 12, 19) 3 1 rfl (by decide) (fun z hz => by cases hz) rfl (by decide) zlk_19 zlc_IAE (Or.inl ⟨3, rfl, dL_lostBy_12, rfl⟩) (by decide) (zj_iconstN_1 (n := 14) rfl dL_lostBy_13 (zj_ireturn dL_lostBy_14 rfl rfl (by have h9 := h M zFrC.rf (hI) (fun q0 => absurd q0 (by omega)); rw [q] at h9; exact h9)))) (fun q M9 hq9 => ?_))
  have hF9 := hq9.fC
  have hI9 := hI.q hq9
  refine zj_i2l (n := 8) rfl dL_lostBy_7 ?_
  refine zj_lastoreN (n := 9) rfl dL_lostBy_8 (by decide) rfl (by decide) ?_
  refine zj_goto (tgt := 15) dL_lostBy_9 (by decide) ?_
  refine zj_iconstN_0 (n := 16) rfl dL_lostBy_15 ?_
  refine zj_ireturn dL_lostBy_16 rfl rfl ?_
  have h9 := h _ hF9.out hI9.out (fun _ => by dsimp only; rw [zU_eq])
  rw [q] at h9
  exact h9
theorem jL_roundsToRepair {S : zLS} {x : Int32} {Q : Option Value → zM → Prop} {X : String → zM → Prop} {M : zM} (hI : zIc M S) (hP : zIp S) (h : ∀ M', zFrC M M' → zIc M' S → ((a_toRepair S.1.1 x).1 = 0 → M'.2.1 131 0 = (a_toRepair S.1.1 x).2.toInt64) → Q (some (.int (nI (a_toRepair S.1.1 x).1))) M') : zJG (zGH [(0, 9, 12, 32)]) yL_roundsToRepair cL_roundsToRepair 4 (some .int) rL_roundsToRepair Q X rL_roundsToRepair.cells rL_roundsToRepair.slots 0 (zEnt 4 [.ref 99, .int x, .ref 131]) [] M := by
  show zJG (zGH [(0, 9, 12, 32)]) yL_roundsToRepair cL_roundsToRepair 4 (some .int) rL_roundsToRepair Q X 1 6 0 [some (.ref 99), some (.int x), some (.ref 131), none] [] M
  refine zj_aload2 (n := 1) rfl dL_roundsToRepair_0 ?_
  refine zj_iconstN_0 (n := 2) rfl dL_roundsToRepair_1 ?_
  refine zj_aload0 (n := 3) rfl dL_roundsToRepair_2 ?_
  refine zj_iload1 (n := 4) rfl dL_roundsToRepair_3 ?_
  refine zj_callVH1 (n := 7) (a' := 0) (b' := 0) rfl dL_roundsToRepair_4 zm_L_119 (by decide) (by decide) rfl (by decide) (Nat.le_of_ble_eq_true rfl) (Nat.le_of_ble_eq_true rfl) (Nat.le_of_ble_eq_true rfl) (jX9_roundsToRepair hI.1 hP.1 (fun q => zHl_mk [] [] (0, 9, 12, 32) 3 1 rfl (by decide) (fun z hz => by cases hz) rfl (by decide) zlk_32 zlc_IOOBE (Or.inl ⟨3, rfl, dL_roundsToRepair_12, rfl⟩) (by decide) (zj_iconstN_1 (n := 14) rfl dL_roundsToRepair_13 (zj_ireturn dL_roundsToRepair_14 rfl rfl (by have h9 := h M zFrC.rf (hI) (fun q0 => absurd q0 (by omega)); rw [q] at h9; exact h9)))) (fun q M9 hq9 => ?_))
  have hF9 := hq9.fC
  have hI9 := hI.q hq9
  refine zj_i2l (n := 8) rfl dL_roundsToRepair_7 ?_
  refine zj_lastoreN (n := 9) rfl dL_roundsToRepair_8 (by decide) rfl (by decide) ?_
  refine zj_goto (tgt := 15) dL_roundsToRepair_9 (by decide) ?_
  refine zj_iconstN_0 (n := 16) rfl dL_roundsToRepair_15 ?_
  refine zj_ireturn dL_roundsToRepair_16 rfl rfl ?_
  have h9 := h _ hF9.out hI9.out (fun _ => by dsimp only; rw [zU_eq])
  rw [q] at h9
  exact h9
theorem jL_soldIn {S : zLS} {x : Int32} {Q : Option Value → zM → Prop} {X : String → zM → Prop} {M : zM} (hI : zIc M S) (hP : zIp S) (h : ∀ M', zFrC M M' → zIc M' S → ((a_soldIn S.1.1 x).1 = 0 → M'.2.1 131 0 = (a_soldIn S.1.1 x).2.toInt64) → Q (some (.int (nI (a_soldIn S.1.1 x).1))) M') : zJG (zGH [(0, 9, 12, 19)]) yL_soldIn cL_soldIn 4 (some .int) rL_soldIn Q X rL_soldIn.cells rL_soldIn.slots 0 (zEnt 4 [.ref 99, .int x, .ref 131]) [] M := by
  show zJG (zGH [(0, 9, 12, 19)]) yL_soldIn cL_soldIn 4 (some .int) rL_soldIn Q X 1 6 0 [some (.ref 99), some (.int x), some (.ref 131), none] [] M
  refine zj_aload2 (n := 1) rfl dL_soldIn_0 ?_
  refine zj_iconstN_0 (n := 2) rfl dL_soldIn_1 ?_
  refine zj_aload0 (n := 3) rfl dL_soldIn_2 ?_
  refine zj_iload1 (n := 4) rfl dL_soldIn_3 ?_
  refine zj_callVH1 (n := 7) (a' := 0) (b' := 0) rfl dL_soldIn_4 zm_L_122 (by decide) (by decide) rfl (by decide) (Nat.le_of_ble_eq_true rfl) (Nat.le_of_ble_eq_true rfl) (Nat.le_of_ble_eq_true rfl) (jX9_soldIn hI.1 hP.1 (fun q => zHl_mk [] [] (0, 9, 12, 19) 3 1 rfl (by decide) (fun z hz => by cases hz) rfl (by decide) zlk_19 zlc_IAE (Or.inl ⟨3, rfl, dL_soldIn_12, rfl⟩) (by decide) (zj_iconstN_1 (n := 14) rfl dL_soldIn_13 (zj_ireturn dL_soldIn_14 rfl rfl (by have h9 := h M zFrC.rf (hI) (fun q0 => absurd q0 (by omega)); rw [q] at h9; exact h9)))) (fun q M9 hq9 => ?_))
  have hF9 := hq9.fC
  have hI9 := hI.q hq9
  refine zj_i2l (n := 8) rfl dL_soldIn_7 ?_
  refine zj_lastoreN (n := 9) rfl dL_soldIn_8 (by decide) rfl (by decide) ?_
  refine zj_goto (tgt := 15) dL_soldIn_9 (by decide) ?_
  refine zj_iconstN_0 (n := 16) rfl dL_soldIn_15 ?_
  refine zj_ireturn dL_soldIn_16 rfl rfl ?_
  have h9 := h _ hF9.out hI9.out (fun _ => by dsimp only; rw [zU_eq])
  rw [q] at h9
  exact h9
theorem jL_purseAfter {S : zLS} {x z : Int32} {Q : Option Value → zM → Prop} {X : String → zM → Prop} {M : zM} (hI : zIc M S) (hP : zIp S) (h : ∀ M', zFrC M M' → zIc M' S → ((a_purse S.1.1 x z).1 = 0 → M'.2.1 131 0 = (a_purse S.1.1 x z).2.toInt64) → Q (some (.int (nI (a_purse S.1.1 x z).1))) M') : zJG (zGH [(0, 10, 13, 32), (0, 10, 17, 19)]) yL_purseAfter cL_purseAfter 5 (some .int) rL_purseAfter Q X rL_purseAfter.cells rL_purseAfter.slots 0 (zEnt 5 [.ref 99, .int x, .int z, .ref 131]) [] M := by
  show zJG (zGH [(0, 10, 13, 32), (0, 10, 17, 19)]) yL_purseAfter cL_purseAfter 5 (some .int) rL_purseAfter Q X 2 12 0 [some (.ref 99), some (.int x), some (.int z), some (.ref 131), none] [] M
  refine zj_aload3 (n := 1) rfl dL_purseAfter_0 ?_
  refine zj_iconstN_0 (n := 2) rfl dL_purseAfter_1 ?_
  refine zj_aload0 (n := 3) rfl dL_purseAfter_2 ?_
  refine zj_iload1 (n := 4) rfl dL_purseAfter_3 ?_
  refine zj_iload2 (n := 5) rfl dL_purseAfter_4 ?_
  refine zj_callVH2 (n := 8) (a' := 0) (b' := 0) rfl dL_purseAfter_5 zm_L_125 (by decide) (by decide) rfl (by decide) (Nat.le_of_ble_eq_true rfl) (Nat.le_of_ble_eq_true rfl) (Nat.le_of_ble_eq_true rfl) (jX9_purseAfter hI.1 hP.1 (fun q => zHl_mk [] [(0, 10, 17, 19)] (0, 10, 13, 32) 4 2 rfl (by decide) (fun z hz => by cases hz) rfl (by decide) zlk_32 zlc_IOOBE (Or.inr ⟨dL_purseAfter_13, rfl⟩) (by decide) (zj_iconstN_1 (n := 16) rfl dL_purseAfter_15 (zj_ireturn dL_purseAfter_16 rfl rfl (by have h9 := h M zFrC.rf (hI) (fun q0 => absurd q0 (by omega)); rw [q] at h9; exact h9)))) (fun q => zHl_mk [(0, 10, 13, 32)] [] (0, 10, 17, 19) 4 2 rfl (by decide) (fun z hz => by rcases List.mem_singleton.mp hz with rfl; exact ⟨by decide, "java/lang/IndexOutOfBoundsException", by decide, by decide, zlk_32⟩) rfl (by decide) zlk_19 zlc_IAE (Or.inr ⟨dL_purseAfter_17, rfl⟩) (by decide) (zj_iconstN_2 (n := 20) rfl dL_purseAfter_19 (zj_ireturn dL_purseAfter_20 rfl rfl (by have h9 := h M zFrC.rf (hI) (fun q0 => absurd q0 (by omega)); rw [q] at h9; exact h9)))) (fun q M9 hq9 => ?_))
  have hF9 := hq9.fC
  have hI9 := hI.q hq9
  refine zj_i2l (n := 9) rfl dL_purseAfter_8 ?_
  refine zj_lastoreN (n := 10) rfl dL_purseAfter_9 (by decide) rfl (by decide) ?_
  refine zj_goto (tgt := 21) dL_purseAfter_10 (by decide) ?_
  refine zj_iconstN_0 (n := 22) rfl dL_purseAfter_21 ?_
  refine zj_ireturn dL_purseAfter_22 rfl rfl ?_
  have h9 := h _ hF9.out hI9.out (fun _ => by dsimp only; rw [zU_eq])
  rw [q] at h9
  exact h9
theorem jL_history {S : zLS} {x z : Int32} {Q : Option Value → zM → Prop} {X : String → zM → Prop} {M : zM} (hI : zIc M S) (hP : zIp S) (h : ∀ M', zFrC M M' → zIc M' S → ((a_history S.1.1 x z).1 = 0 → M'.2.1 131 0 = (a_history S.1.1 x z).2.toInt64) → Q (some (.int (nI (a_history S.1.1 x z).1))) M') : zJG (zGH [(0, 10, 13, 32), (0, 10, 17, 19)]) yL_history cL_history 5 (some .int) rL_history Q X rL_history.cells rL_history.slots 0 (zEnt 5 [.ref 99, .int x, .int z, .ref 131]) [] M := by
  show zJG (zGH [(0, 10, 13, 32), (0, 10, 17, 19)]) yL_history cL_history 5 (some .int) rL_history Q X 2 12 0 [some (.ref 99), some (.int x), some (.int z), some (.ref 131), none] [] M
  refine zj_aload3 (n := 1) rfl dL_history_0 ?_
  refine zj_iconstN_0 (n := 2) rfl dL_history_1 ?_
  refine zj_aload0 (n := 3) rfl dL_history_2 ?_
  refine zj_iload1 (n := 4) rfl dL_history_3 ?_
  refine zj_iload2 (n := 5) rfl dL_history_4 ?_
  refine zj_callVH2 (n := 8) (a' := 0) (b' := 0) rfl dL_history_5 zm_L_128 (by decide) (by decide) rfl (by decide) (Nat.le_of_ble_eq_true rfl) (Nat.le_of_ble_eq_true rfl) (Nat.le_of_ble_eq_true rfl) (jX9_history hI.1 hP.1 (fun q => zHl_mk [] [(0, 10, 17, 19)] (0, 10, 13, 32) 4 2 rfl (by decide) (fun z hz => by cases hz) rfl (by decide) zlk_32 zlc_IOOBE (Or.inr ⟨dL_history_13, rfl⟩) (by decide) (zj_iconstN_1 (n := 16) rfl dL_history_15 (zj_ireturn dL_history_16 rfl rfl (by have h9 := h M zFrC.rf (hI) (fun q0 => absurd q0 (by omega)); rw [q] at h9; exact h9)))) (fun q => zHl_mk [(0, 10, 13, 32)] [] (0, 10, 17, 19) 4 2 rfl (by decide) (fun z hz => by rcases List.mem_singleton.mp hz with rfl; exact ⟨by decide, "java/lang/IndexOutOfBoundsException", by decide, by decide, zlk_32⟩) rfl (by decide) zlk_19 zlc_IAE (Or.inr ⟨dL_history_17, rfl⟩) (by decide) (zj_iconstN_2 (n := 20) rfl dL_history_19 (zj_ireturn dL_history_20 rfl rfl (by have h9 := h M zFrC.rf (hI) (fun q0 => absurd q0 (by omega)); rw [q] at h9; exact h9)))) (fun q M9 hq9 => ?_))
  have hF9 := hq9.fC
  have hI9 := hI.q hq9
  refine zj_i2l (n := 9) rfl dL_history_8 ?_
  refine zj_lastoreN (n := 10) rfl dL_history_9 (by decide) rfl (by decide) ?_
  refine zj_goto (tgt := 21) dL_history_10 (by decide) ?_
  refine zj_iconstN_0 (n := 22) rfl dL_history_21 ?_
  refine zj_ireturn dL_history_22 rfl rfl ?_
  have h9 := h _ hF9.out hI9.out (fun _ => by dsimp only; rw [zU_eq])
  rw [q] at h9
  exact h9
theorem jL_meanPrice {S : zLS} {x : Int32} {Q : Option Value → zM → Prop} {X : String → zM → Prop} {M : zM} (hI : zIc M S) (hP : zIp S) (h : ∀ M', zFrC M M' → zIc M' S → ((a_mean S.1.1 x).1 = 0 → M'.2.2.1 132 0 = (a_mean S.1.1 x).2) → Q (some (.int (nI (a_mean S.1.1 x).1))) M') : zJG (zGH [(0, 8, 11, 19), (0, 8, 14, 134)]) yL_meanPrice cL_meanPrice 4 (some .int) rL_meanPrice Q X rL_meanPrice.cells rL_meanPrice.slots 0 (zEnt 4 [.ref 99, .int x, .ref 132]) [] M := by
  show zJG (zGH [(0, 8, 11, 19), (0, 8, 14, 134)]) yL_meanPrice cL_meanPrice 4 (some .int) rL_meanPrice Q X 2 12 0 [some (.ref 99), some (.int x), some (.ref 132), none] [] M
  refine zj_aload2 (n := 1) rfl dL_meanPrice_0 ?_
  refine zj_iconstN_0 (n := 2) rfl dL_meanPrice_1 ?_
  refine zj_aload0 (n := 3) rfl dL_meanPrice_2 ?_
  refine zj_iload1 (n := 4) rfl dL_meanPrice_3 ?_
  refine zj_callVH1 (n := 7) (a' := 0) (b' := 0) rfl dL_meanPrice_4 zm_L_131 (by decide) (by decide) rfl (by decide) (Nat.le_of_ble_eq_true rfl) (Nat.le_of_ble_eq_true rfl) (Nat.le_of_ble_eq_true rfl) (jX9_meanPrice hI.1 hP.1 (fun q => zHl_mk [] [(0, 8, 14, 134)] (0, 8, 11, 19) 3 1 rfl (by decide) (fun z hz => by cases hz) rfl (by decide) zlk_19 zlc_IAE (Or.inl ⟨3, rfl, dL_meanPrice_11, rfl⟩) (by decide) (zj_iconstN_1 (n := 13) rfl dL_meanPrice_12 (zj_ireturn dL_meanPrice_13 rfl rfl (by have h9 := h M zFrC.rf (hI) (fun q0 => absurd q0 (by omega)); rw [q] at h9; exact h9)))) (fun q => zHl_mk [(0, 8, 11, 19)] [] (0, 8, 14, 134) 3 1 rfl (by decide) (fun z hz => by rcases List.mem_singleton.mp hz with rfl; exact ⟨by decide, "java/lang/IllegalArgumentException", by decide, by decide, zlk_19⟩) rfl (by decide) zlk_134 zlc_NSE (Or.inl ⟨3, rfl, dL_meanPrice_14, rfl⟩) (by decide) (zj_iconstN_2 (n := 16) rfl dL_meanPrice_15 (zj_ireturn dL_meanPrice_16 rfl rfl (by have h9 := h M zFrC.rf (hI) (fun q0 => absurd q0 (by omega)); rw [q] at h9; exact h9)))) (fun q M9 hq9 => ?_))
  have hF9 := hq9.fC
  have hI9 := hI.q hq9
  refine zj_dastoreN (n := 8) rfl dL_meanPrice_7 (by decide) rfl (by decide) ?_
  refine zj_goto (tgt := 17) dL_meanPrice_8 (by decide) ?_
  refine zj_iconstN_0 (n := 18) rfl dL_meanPrice_17 ?_
  refine zj_ireturn dL_meanPrice_18 rfl rfl ?_
  have h9 := h _ hF9.outD hI9.outD (fun _ => by dsimp only; rw [zU_eq])
  rw [q] at h9
  exact h9
theorem jL_dearestRound {S : zLS} {Q : Option Value → zM → Prop} {X : String → zM → Prop} {M : zM} (hI : zIc M S) (hP : zIp S) (h : ∀ M', zFrC M M' → zIc M' S → ((a_dearest S.1.1).1 = 0 → M'.2.1 131 0 = (a_dearest S.1.1).2.toInt64) → Q (some (.int (nI (a_dearest S.1.1).1))) M') : zJG (zGH [(0, 8, 11, 134)]) yL_dearestRound cL_dearestRound 3 (some .int) rL_dearestRound Q X rL_dearestRound.cells rL_dearestRound.slots 0 (zEnt 3 [.ref 99, .ref 131]) [] M := by
  show zJG (zGH [(0, 8, 11, 134)]) yL_dearestRound cL_dearestRound 3 (some .int) rL_dearestRound Q X 1 6 0 [some (.ref 99), some (.ref 131), none] [] M
  refine zj_aload1 (n := 1) rfl dL_dearestRound_0 ?_
  refine zj_iconstN_0 (n := 2) rfl dL_dearestRound_1 ?_
  refine zj_aload0 (n := 3) rfl dL_dearestRound_2 ?_
  refine zj_callVH0 (n := 6) (a' := 0) (b' := 0) rfl dL_dearestRound_3 zm_L_136 (by decide) (by decide) rfl (by decide) (Nat.le_of_ble_eq_true rfl) (Nat.le_of_ble_eq_true rfl) (Nat.le_of_ble_eq_true rfl) (jX9_dearestRound hI.1 hP.1 (fun q => zHl_mk [] [] (0, 8, 11, 134) 2 1 rfl (by decide) (fun z hz => by cases hz) rfl (by decide) zlk_134 zlc_NSE (Or.inl ⟨2, rfl, dL_dearestRound_11, rfl⟩) (by decide) (zj_iconstN_1 (n := 13) rfl dL_dearestRound_12 (zj_ireturn dL_dearestRound_13 rfl rfl (by have h9 := h M zFrC.rf (hI) (fun q0 => absurd q0 (by omega)); rw [q] at h9; exact h9)))) (fun q M9 hq9 => ?_))
  have hF9 := hq9.fC
  have hI9 := hI.q hq9
  refine zj_i2l (n := 7) rfl dL_dearestRound_6 ?_
  refine zj_lastoreN (n := 8) rfl dL_dearestRound_7 (by decide) rfl (by decide) ?_
  refine zj_goto (tgt := 14) dL_dearestRound_8 (by decide) ?_
  refine zj_iconstN_0 (n := 15) rfl dL_dearestRound_14 ?_
  refine zj_ireturn dL_dearestRound_15 rfl rfl ?_
  have h9 := h _ hF9.out hI9.out (fun _ => by dsimp only; rw [zU_eq])
  rw [q] at h9
  exact h9
theorem jL_undo {S : zLS} {Q : Option Value → zM → Prop} {X : String → zM → Prop} {M : zM} (hI : zIc M S) (hP : zIp S) (h : ∀ M', zFrC M M' → zIc M' ((if S.1.2.1 = 0 then (S.1.1, S.1.2.1, S.1.2.2) else (S.1.2.2 (S.1.2.1 - 1), S.1.2.1 - 1, S.1.2.2)), S.2) → ((a_undo S.1.2.1).1 = 0 → M'.2.1 131 0 = (a_undo S.1.2.1).2.toInt64) → Q (some (.int (nI (a_undo S.1.2.1).1))) M') : zJG (zGH [(0, 8, 11, 13)]) yL_undo cL_undo 3 (some .int) rL_undo Q X rL_undo.cells rL_undo.slots 0 (zEnt 3 [.ref 99, .ref 131]) [] M := by
  show zJG (zGH [(0, 8, 11, 13)]) yL_undo cL_undo 3 (some .int) rL_undo Q X 1 6 0 [some (.ref 99), some (.ref 131), none] [] M
  refine zj_aload1 (n := 1) rfl dL_undo_0 ?_
  refine zj_iconstN_0 (n := 2) rfl dL_undo_1 ?_
  refine zj_aload0 (n := 3) rfl dL_undo_2 ?_
  refine zj_callVH0 (n := 6) (a' := 0) (b' := 0) rfl dL_undo_3 zm_L_140 (by decide) (by decide) rfl (by decide) (Nat.le_of_ble_eq_true rfl) (Nat.le_of_ble_eq_true rfl) (Nat.le_of_ble_eq_true rfl) (jX9_undo hI.1 hP.1 hI.2.1 (fun i hi => (hP.2.2.2.1 i hi).1) (fun q => zHl_mk [] [] (0, 8, 11, 13) 2 1 rfl (by decide) (fun z hz => by cases hz) rfl (by decide) zlk_13 zlc_ISE (Or.inl ⟨2, rfl, dL_undo_11, rfl⟩) (by decide) (zj_iconstN_1 (n := 13) rfl dL_undo_12 (zj_ireturn dL_undo_13 rfl rfl (by have h9 := h M zFrC.rf (by rw [if_pos (zq_undo1 q)]; exact hI) (fun q0 => absurd q0 (by omega)); rw [q] at h9; exact h9)))) (fun q M9 hm9 hC9 hU9 => ?_))
  have hF9 := hm9.fC
  have hI9 : zIc M9 ((if S.1.2.1 = 0 then (S.1.1, S.1.2.1, S.1.2.2) else (S.1.2.2 (S.1.2.1 - 1), S.1.2.1 - 1, S.1.2.2)), S.2) := by
    rw [if_neg (zq_undo0 q)]
    exact hI.m (u := (_, _, _)) hm9 hC9 hU9
  refine zj_i2l (n := 7) rfl dL_undo_6 ?_
  refine zj_lastoreN (n := 8) rfl dL_undo_7 (by decide) rfl (by decide) ?_
  refine zj_goto (tgt := 14) dL_undo_8 (by decide) ?_
  refine zj_iconstN_0 (n := 15) rfl dL_undo_14 ?_
  refine zj_ireturn dL_undo_15 rfl rfl ?_
  have h9 := h _ hF9.out hI9.out (fun _ => by dsimp only; rw [zU_eq])
  rw [q] at h9
  exact h9
theorem jL_outputByte {S : zLS} {x : Int32} {Q : Option Value → zM → Prop} {X : String → zM → Prop} {M : zM} (hI : zIc M S) (hP : zIp S) (h : ∀ M', zFrC M M' → zIc M' S → ((a_outB S.2.2.1 x).1 = 0 → M'.2.1 131 0 = (a_outB S.2.2.1 x).2.toInt64) → Q (some (.int (nI (a_outB S.2.2.1 x).1))) M') : zJG (zGH [(0, 9, 12, 32)]) yL_outputByte cL_outputByte 4 (some .int) rL_outputByte Q X rL_outputByte.cells rL_outputByte.slots 0 (zEnt 4 [.ref 99, .int x, .ref 131]) [] M := by
  show zJG (zGH [(0, 9, 12, 32)]) yL_outputByte cL_outputByte 4 (some .int) rL_outputByte Q X 1 6 0 [some (.ref 99), some (.int x), some (.ref 131), none] [] M
  refine zj_aload2 (n := 1) rfl dL_outputByte_0 ?_
  refine zj_iconstN_0 (n := 2) rfl dL_outputByte_1 ?_
  refine zj_aload0 (n := 3) rfl dL_outputByte_2 ?_
  refine zj_iload1 (n := 4) rfl dL_outputByte_3 ?_
  refine zj_callVH1 (n := 7) (a' := 0) (b' := 0) rfl dL_outputByte_4 zm_L_143 (by decide) (by decide) rfl (by decide) (Nat.le_of_ble_eq_true rfl) (Nat.le_of_ble_eq_true rfl) (Nat.le_of_ble_eq_true rfl) (jX9_outputByte hI.2.2.2.1 (fun q => zHl_mk [] [] (0, 9, 12, 32) 3 1 rfl (by decide) (fun z hz => by cases hz) rfl (by decide) zlk_32 zlc_IOOBE (Or.inl ⟨3, rfl, dL_outputByte_12, rfl⟩) (by decide) (zj_iconstN_1 (n := 14) rfl dL_outputByte_13 (zj_ireturn dL_outputByte_14 rfl rfl (by have h9 := h M zFrC.rf (hI) (fun q0 => absurd q0 (by omega)); rw [q] at h9; exact h9)))) (fun q => ?_))
  have hF9 := zFrC.rf (M := M)
  have hI9 := hI
  refine zj_i2l (n := 8) rfl dL_outputByte_7 ?_
  refine zj_lastoreN (n := 9) rfl dL_outputByte_8 (by decide) rfl (by decide) ?_
  refine zj_goto (tgt := 15) dL_outputByte_9 (by decide) ?_
  refine zj_iconstN_0 (n := 16) rfl dL_outputByte_15 ?_
  refine zj_ireturn dL_outputByte_16 rfl rfl ?_
  have h9 := h _ hF9.out hI9.out (fun _ => by dsimp only; rw [zU_eq])
  rw [q] at h9
  exact h9
