/-! THE LAW: its cases -/
theorem zj_callLV0 {L : Nat} {xs : Nat → Int32} {y : MethodName} {cc : ByteArray} {nL : Nat} {ret : Option FieldType} {R : Room} {Q : Option Value → zM → Prop} {X : String → zM → Prop} {a b pc n : Nat} {l : List (Option Value)} {st : List Value} {M : zM} {y' : MethodName} {cc' : ByteArray} {nL' idx k a' b' : Nat} {ret' : Option FieldType} {R' : Room} (hn : pc + 3 = n) (hd : decode cc pc = .ok (.invokevirtual idx, 3)) (S : zSv y.cls idx y' cc' nL' ret' 0) (hR : R'.frames + 1 ≤ R.frames ∧ 8 + (nL' + 11) + R'.locals ≤ R.locals) (hk : k < 133) (hcl : (vwCl[zTy k]?).map (fun q => q.1) = some y'.cls) (hst : zSum st ≤ 8) (ha9 : R'.cells + a' ≤ a) (hb9 : R'.slots + b' ≤ b) (hw : zSum [] + 1 ≤ nL')
    (hJ : zJ y' cc' nL' ret' R' (fun r M' => zJG (zGL L xs) y cc nL ret R Q X a' b' n l (zPush r st) M') X R'.cells R'.slots 0 (zEnt nL' [.ref k]) [] M) : zJG (zGL L xs) y cc nL ret R Q X a b pc l (.ref k :: st) M := zj_callV (vs := []) hn hd S hR hk hcl hst ha9 hb9 hw hJ zGL_e
theorem zj_callLV1 {L : Nat} {xs : Nat → Int32} {y : MethodName} {cc : ByteArray} {nL : Nat} {ret : Option FieldType} {R : Room} {Q : Option Value → zM → Prop} {X : String → zM → Prop} {a b pc n : Nat} {l : List (Option Value)} {st : List Value} {M : zM} {y' : MethodName} {cc' : ByteArray} {nL' idx k a' b' : Nat} {ret' : Option FieldType} {R' : Room} {v1 : Value} (hn : pc + 3 = n) (hd : decode cc pc = .ok (.invokevirtual idx, 3)) (S : zSv y.cls idx y' cc' nL' ret' 1) (hR : R'.frames + 1 ≤ R.frames ∧ 8 + (nL' + 11) + R'.locals ≤ R.locals) (hk : k < 133) (hcl : (vwCl[zTy k]?).map (fun q => q.1) = some y'.cls) (hst : zSum st ≤ 8) (ha9 : R'.cells + a' ≤ a) (hb9 : R'.slots + b' ≤ b) (hw : zSum [v1] + 1 ≤ nL')
    (hJ : zJ y' cc' nL' ret' R' (fun r M' => zJG (zGL L xs) y cc nL ret R Q X a' b' n l (zPush r st) M') X R'.cells R'.slots 0 (zEnt nL' [.ref k, v1]) [] M) : zJG (zGL L xs) y cc nL ret R Q X a b pc l (v1 :: .ref k :: st) M := zj_callV (vs := [v1]) hn hd S hR hk hcl hst ha9 hb9 hw hJ zGL_e
theorem zj_callLW1 {L : Nat} {xs : Nat → Int32} {y : MethodName} {cc : ByteArray} {nL : Nat} {ret : Option FieldType} {R : Room} {Q : Option Value → zM → Prop} {X : String → zM → Prop} {a b pc n : Nat} {l : List (Option Value)} {st : List Value} {M : zM} {hh : List (Nat × Nat × Nat × Nat)} {y' : MethodName} {cc' : ByteArray} {nL' idx a' b' : Nat} {ret' : Option FieldType} {R' : Room} {v1 : Value} (hn : pc + 3 = n) (hd : decode cc pc = .ok (.invokestatic idx, 3)) (S : zSw y.cls idx y' cc' nL' ret' hh 1) (hR : R'.frames + 1 ≤ R.frames ∧ 8 + (nL' + 11) + R'.locals ≤ R.locals) (hst : zSum st ≤ 8) (ha9 : R'.cells + a' ≤ a) (hb9 : R'.slots + b' ≤ b) (hw : zSum [v1] ≤ nL')
    (hJ : zJG (zGH hh) y' cc' nL' ret' R' (fun r M' => zJG (zGL L xs) y cc nL ret R Q X a' b' n l (zPush r st) M') X R'.cells R'.slots 0 (zEnt nL' [v1]) [] M) : zJG (zGL L xs) y cc nL ret R Q X a b pc l (v1 :: st) M := zj_callSW (vs := [v1]) hn hd S hR hst ha9 hb9 hw hJ zGL_e (fun _ _ _ _ h => h.2.1)
theorem zj_callLV2 {L : Nat} {xs : Nat → Int32} {y : MethodName} {cc : ByteArray} {nL : Nat} {ret : Option FieldType} {R : Room} {Q : Option Value → zM → Prop} {X : String → zM → Prop} {a b pc n : Nat} {l : List (Option Value)} {st : List Value} {M : zM} {y' : MethodName} {cc' : ByteArray} {nL' idx k a' b' : Nat} {ret' : Option FieldType} {R' : Room} {v1 v2 : Value} (hn : pc + 3 = n) (hd : decode cc pc = .ok (.invokevirtual idx, 3)) (S : zSv y.cls idx y' cc' nL' ret' 2) (hR : R'.frames + 1 ≤ R.frames ∧ 8 + (nL' + 11) + R'.locals ≤ R.locals) (hk : k < 133) (hcl : (vwCl[zTy k]?).map (fun q => q.1) = some y'.cls) (hst : zSum st ≤ 8) (ha9 : R'.cells + a' ≤ a) (hb9 : R'.slots + b' ≤ b) (hw : zSum [v1, v2] + 1 ≤ nL')
    (hJ : zJ y' cc' nL' ret' R' (fun r M' => zJG (zGL L xs) y cc nL ret R Q X a' b' n l (zPush r st) M') X R'.cells R'.slots 0 (zEnt nL' [.ref k, v1, v2]) [] M) : zJG (zGL L xs) y cc nL ret R Q X a b pc l (v2 :: v1 :: .ref k :: st) M := zj_callV (vs := [v1, v2]) hn hd S hR hk hcl hst ha9 hb9 hw hJ zGL_e
theorem zj_callLW2 {L : Nat} {xs : Nat → Int32} {y : MethodName} {cc : ByteArray} {nL : Nat} {ret : Option FieldType} {R : Room} {Q : Option Value → zM → Prop} {X : String → zM → Prop} {a b pc n : Nat} {l : List (Option Value)} {st : List Value} {M : zM} {hh : List (Nat × Nat × Nat × Nat)} {y' : MethodName} {cc' : ByteArray} {nL' idx a' b' : Nat} {ret' : Option FieldType} {R' : Room} {v1 v2 : Value} (hn : pc + 3 = n) (hd : decode cc pc = .ok (.invokestatic idx, 3)) (S : zSw y.cls idx y' cc' nL' ret' hh 2) (hR : R'.frames + 1 ≤ R.frames ∧ 8 + (nL' + 11) + R'.locals ≤ R.locals) (hst : zSum st ≤ 8) (ha9 : R'.cells + a' ≤ a) (hb9 : R'.slots + b' ≤ b) (hw : zSum [v1, v2] ≤ nL')
    (hJ : zJG (zGH hh) y' cc' nL' ret' R' (fun r M' => zJG (zGL L xs) y cc nL ret R Q X a' b' n l (zPush r st) M') X R'.cells R'.slots 0 (zEnt nL' [v1, v2]) [] M) : zJG (zGL L xs) y cc nL ret R Q X a b pc l (v2 :: v1 :: st) M := zj_callSW (vs := [v1, v2]) hn hd S hR hst ha9 hb9 hw hJ zGL_e (fun _ _ _ _ h => h.2.1)
theorem zj_callLV3 {L : Nat} {xs : Nat → Int32} {y : MethodName} {cc : ByteArray} {nL : Nat} {ret : Option FieldType} {R : Room} {Q : Option Value → zM → Prop} {X : String → zM → Prop} {a b pc n : Nat} {l : List (Option Value)} {st : List Value} {M : zM} {y' : MethodName} {cc' : ByteArray} {nL' idx k a' b' : Nat} {ret' : Option FieldType} {R' : Room} {v1 v2 v3 : Value} (hn : pc + 3 = n) (hd : decode cc pc = .ok (.invokevirtual idx, 3)) (S : zSv y.cls idx y' cc' nL' ret' 3) (hR : R'.frames + 1 ≤ R.frames ∧ 8 + (nL' + 11) + R'.locals ≤ R.locals) (hk : k < 133) (hcl : (vwCl[zTy k]?).map (fun q => q.1) = some y'.cls) (hst : zSum st ≤ 8) (ha9 : R'.cells + a' ≤ a) (hb9 : R'.slots + b' ≤ b) (hw : zSum [v1, v2, v3] + 1 ≤ nL')
    (hJ : zJ y' cc' nL' ret' R' (fun r M' => zJG (zGL L xs) y cc nL ret R Q X a' b' n l (zPush r st) M') X R'.cells R'.slots 0 (zEnt nL' [.ref k, v1, v2, v3]) [] M) : zJG (zGL L xs) y cc nL ret R Q X a b pc l (v3 :: v2 :: v1 :: .ref k :: st) M := zj_callV (vs := [v1, v2, v3]) hn hd S hR hk hcl hst ha9 hb9 hw hJ zGL_e
theorem zj_callLW3 {L : Nat} {xs : Nat → Int32} {y : MethodName} {cc : ByteArray} {nL : Nat} {ret : Option FieldType} {R : Room} {Q : Option Value → zM → Prop} {X : String → zM → Prop} {a b pc n : Nat} {l : List (Option Value)} {st : List Value} {M : zM} {hh : List (Nat × Nat × Nat × Nat)} {y' : MethodName} {cc' : ByteArray} {nL' idx a' b' : Nat} {ret' : Option FieldType} {R' : Room} {v1 v2 v3 : Value} (hn : pc + 3 = n) (hd : decode cc pc = .ok (.invokestatic idx, 3)) (S : zSw y.cls idx y' cc' nL' ret' hh 3) (hR : R'.frames + 1 ≤ R.frames ∧ 8 + (nL' + 11) + R'.locals ≤ R.locals) (hst : zSum st ≤ 8) (ha9 : R'.cells + a' ≤ a) (hb9 : R'.slots + b' ≤ b) (hw : zSum [v1, v2, v3] ≤ nL')
    (hJ : zJG (zGH hh) y' cc' nL' ret' R' (fun r M' => zJG (zGL L xs) y cc nL ret R Q X a' b' n l (zPush r st) M') X R'.cells R'.slots 0 (zEnt nL' [v1, v2, v3]) [] M) : zJG (zGL L xs) y cc nL ret R Q X a b pc l (v3 :: v2 :: v1 :: st) M := zj_callSW (vs := [v1, v2, v3]) hn hd S hR hst ha9 hb9 hw hJ zGL_e (fun _ _ _ _ h => h.2.1)
theorem zj_callLV4 {L : Nat} {xs : Nat → Int32} {y : MethodName} {cc : ByteArray} {nL : Nat} {ret : Option FieldType} {R : Room} {Q : Option Value → zM → Prop} {X : String → zM → Prop} {a b pc n : Nat} {l : List (Option Value)} {st : List Value} {M : zM} {y' : MethodName} {cc' : ByteArray} {nL' idx k a' b' : Nat} {ret' : Option FieldType} {R' : Room} {v1 v2 v3 v4 : Value} (hn : pc + 3 = n) (hd : decode cc pc = .ok (.invokevirtual idx, 3)) (S : zSv y.cls idx y' cc' nL' ret' 4) (hR : R'.frames + 1 ≤ R.frames ∧ 8 + (nL' + 11) + R'.locals ≤ R.locals) (hk : k < 133) (hcl : (vwCl[zTy k]?).map (fun q => q.1) = some y'.cls) (hst : zSum st ≤ 8) (ha9 : R'.cells + a' ≤ a) (hb9 : R'.slots + b' ≤ b) (hw : zSum [v1, v2, v3, v4] + 1 ≤ nL')
    (hJ : zJ y' cc' nL' ret' R' (fun r M' => zJG (zGL L xs) y cc nL ret R Q X a' b' n l (zPush r st) M') X R'.cells R'.slots 0 (zEnt nL' [.ref k, v1, v2, v3, v4]) [] M) : zJG (zGL L xs) y cc nL ret R Q X a b pc l (v4 :: v3 :: v2 :: v1 :: .ref k :: st) M := zj_callV (vs := [v1, v2, v3, v4]) hn hd S hR hk hcl hst ha9 hb9 hw hJ zGL_e
theorem zj_callLW4 {L : Nat} {xs : Nat → Int32} {y : MethodName} {cc : ByteArray} {nL : Nat} {ret : Option FieldType} {R : Room} {Q : Option Value → zM → Prop} {X : String → zM → Prop} {a b pc n : Nat} {l : List (Option Value)} {st : List Value} {M : zM} {hh : List (Nat × Nat × Nat × Nat)} {y' : MethodName} {cc' : ByteArray} {nL' idx a' b' : Nat} {ret' : Option FieldType} {R' : Room} {v1 v2 v3 v4 : Value} (hn : pc + 3 = n) (hd : decode cc pc = .ok (.invokestatic idx, 3)) (S : zSw y.cls idx y' cc' nL' ret' hh 4) (hR : R'.frames + 1 ≤ R.frames ∧ 8 + (nL' + 11) + R'.locals ≤ R.locals) (hst : zSum st ≤ 8) (ha9 : R'.cells + a' ≤ a) (hb9 : R'.slots + b' ≤ b) (hw : zSum [v1, v2, v3, v4] ≤ nL')
    (hJ : zJG (zGH hh) y' cc' nL' ret' R' (fun r M' => zJG (zGL L xs) y cc nL ret R Q X a' b' n l (zPush r st) M') X R'.cells R'.slots 0 (zEnt nL' [v1, v2, v3, v4]) [] M) : zJG (zGL L xs) y cc nL ret R Q X a b pc l (v4 :: v3 :: v2 :: v1 :: st) M := zj_callSW (vs := [v1, v2, v3, v4]) hn hd S hR hst ha9 hb9 hw hJ zGL_e (fun _ _ _ _ h => h.2.1)
theorem zj_callLV5 {L : Nat} {xs : Nat → Int32} {y : MethodName} {cc : ByteArray} {nL : Nat} {ret : Option FieldType} {R : Room} {Q : Option Value → zM → Prop} {X : String → zM → Prop} {a b pc n : Nat} {l : List (Option Value)} {st : List Value} {M : zM} {y' : MethodName} {cc' : ByteArray} {nL' idx k a' b' : Nat} {ret' : Option FieldType} {R' : Room} {v1 v2 v3 v4 v5 : Value} (hn : pc + 3 = n) (hd : decode cc pc = .ok (.invokevirtual idx, 3)) (S : zSv y.cls idx y' cc' nL' ret' 5) (hR : R'.frames + 1 ≤ R.frames ∧ 8 + (nL' + 11) + R'.locals ≤ R.locals) (hk : k < 133) (hcl : (vwCl[zTy k]?).map (fun q => q.1) = some y'.cls) (hst : zSum st ≤ 8) (ha9 : R'.cells + a' ≤ a) (hb9 : R'.slots + b' ≤ b) (hw : zSum [v1, v2, v3, v4, v5] + 1 ≤ nL')
    (hJ : zJ y' cc' nL' ret' R' (fun r M' => zJG (zGL L xs) y cc nL ret R Q X a' b' n l (zPush r st) M') X R'.cells R'.slots 0 (zEnt nL' [.ref k, v1, v2, v3, v4, v5]) [] M) : zJG (zGL L xs) y cc nL ret R Q X a b pc l (v5 :: v4 :: v3 :: v2 :: v1 :: .ref k :: st) M := zj_callV (vs := [v1, v2, v3, v4, v5]) hn hd S hR hk hcl hst ha9 hb9 hw hJ zGL_e
theorem zj_callLW5 {L : Nat} {xs : Nat → Int32} {y : MethodName} {cc : ByteArray} {nL : Nat} {ret : Option FieldType} {R : Room} {Q : Option Value → zM → Prop} {X : String → zM → Prop} {a b pc n : Nat} {l : List (Option Value)} {st : List Value} {M : zM} {hh : List (Nat × Nat × Nat × Nat)} {y' : MethodName} {cc' : ByteArray} {nL' idx a' b' : Nat} {ret' : Option FieldType} {R' : Room} {v1 v2 v3 v4 v5 : Value} (hn : pc + 3 = n) (hd : decode cc pc = .ok (.invokestatic idx, 3)) (S : zSw y.cls idx y' cc' nL' ret' hh 5) (hR : R'.frames + 1 ≤ R.frames ∧ 8 + (nL' + 11) + R'.locals ≤ R.locals) (hst : zSum st ≤ 8) (ha9 : R'.cells + a' ≤ a) (hb9 : R'.slots + b' ≤ b) (hw : zSum [v1, v2, v3, v4, v5] ≤ nL')
    (hJ : zJG (zGH hh) y' cc' nL' ret' R' (fun r M' => zJG (zGL L xs) y cc nL ret R Q X a' b' n l (zPush r st) M') X R'.cells R'.slots 0 (zEnt nL' [v1, v2, v3, v4, v5]) [] M) : zJG (zGL L xs) y cc nL ret R Q X a b pc l (v5 :: v4 :: v3 :: v2 :: v1 :: st) M := zj_callSW (vs := [v1, v2, v3, v4, v5]) hn hd S hR hst ha9 hb9 hw hJ zGL_e (fun _ _ _ _ h => h.2.1)
theorem zj_callLW6 {L : Nat} {xs : Nat → Int32} {y : MethodName} {cc : ByteArray} {nL : Nat} {ret : Option FieldType} {R : Room} {Q : Option Value → zM → Prop} {X : String → zM → Prop} {a b pc n : Nat} {l : List (Option Value)} {st : List Value} {M : zM} {hh : List (Nat × Nat × Nat × Nat)} {y' : MethodName} {cc' : ByteArray} {nL' idx a' b' : Nat} {ret' : Option FieldType} {R' : Room} {v1 v2 v3 v4 v5 v6 : Value} (hn : pc + 3 = n) (hd : decode cc pc = .ok (.invokestatic idx, 3)) (S : zSw y.cls idx y' cc' nL' ret' hh 6) (hR : R'.frames + 1 ≤ R.frames ∧ 8 + (nL' + 11) + R'.locals ≤ R.locals) (hst : zSum st ≤ 8) (ha9 : R'.cells + a' ≤ a) (hb9 : R'.slots + b' ≤ b) (hw : zSum [v1, v2, v3, v4, v5, v6] ≤ nL')
    (hJ : zJG (zGH hh) y' cc' nL' ret' R' (fun r M' => zJG (zGL L xs) y cc nL ret R Q X a' b' n l (zPush r st) M') X R'.cells R'.slots 0 (zEnt nL' [v1, v2, v3, v4, v5, v6]) [] M) : zJG (zGL L xs) y cc nL ret R Q X a b pc l (v6 :: v5 :: v4 :: v3 :: v2 :: v1 :: st) M := zj_callSW (vs := [v1, v2, v3, v4, v5, v6]) hn hd S hR hst ha9 hb9 hw hJ zGL_e (fun _ _ _ _ h => h.2.1)
theorem zj_callLW7 {L : Nat} {xs : Nat → Int32} {y : MethodName} {cc : ByteArray} {nL : Nat} {ret : Option FieldType} {R : Room} {Q : Option Value → zM → Prop} {X : String → zM → Prop} {a b pc n : Nat} {l : List (Option Value)} {st : List Value} {M : zM} {hh : List (Nat × Nat × Nat × Nat)} {y' : MethodName} {cc' : ByteArray} {nL' idx a' b' : Nat} {ret' : Option FieldType} {R' : Room} {v1 v2 v3 v4 v5 v6 v7 : Value} (hn : pc + 3 = n) (hd : decode cc pc = .ok (.invokestatic idx, 3)) (S : zSw y.cls idx y' cc' nL' ret' hh 7) (hR : R'.frames + 1 ≤ R.frames ∧ 8 + (nL' + 11) + R'.locals ≤ R.locals) (hst : zSum st ≤ 8) (ha9 : R'.cells + a' ≤ a) (hb9 : R'.slots + b' ≤ b) (hw : zSum [v1, v2, v3, v4, v5, v6, v7] ≤ nL')
    (hJ : zJG (zGH hh) y' cc' nL' ret' R' (fun r M' => zJG (zGL L xs) y cc nL ret R Q X a' b' n l (zPush r st) M') X R'.cells R'.slots 0 (zEnt nL' [v1, v2, v3, v4, v5, v6, v7]) [] M) : zJG (zGL L xs) y cc nL ret R Q X a b pc l (v7 :: v6 :: v5 :: v4 :: v3 :: v2 :: v1 :: st) M := zj_callSW (vs := [v1, v2, v3, v4, v5, v6, v7]) hn hd S hR hst ha9 hb9 hw hJ zGL_e (fun _ _ _ _ h => h.2.1)
theorem ck_a_append {n : Nat} : (a_append n).1 ≤ 3 := by
  unfold a_append
  (repeat' split) <;> exact Nat.le_of_ble_eq_true rfl
theorem ck_a_bidder {v : zV} {x : Int32} : (a_bidder v x).1 ≤ 3 := by
  unfold a_bidder
  (repeat' split) <;> exact Nat.le_of_ble_eq_true rfl
theorem ck_a_bids {v : zV} {x : Int32} : (a_bids v x).1 ≤ 3 := by
  unfold a_bids
  (repeat' split) <;> exact Nat.le_of_ble_eq_true rfl
theorem ck_a_clockwise {v : zV} {x y : Int32} : (a_clockwise v x y).1 ≤ 3 := by
  unfold a_clockwise
  (repeat' split) <;> exact Nat.le_of_ble_eq_true rfl
theorem ck_a_count {v : zV} {x : Int32} : (a_count v x).1 ≤ 3 := by
  unfold a_count
  (repeat' split) <;> exact Nat.le_of_ble_eq_true rfl
theorem ck_a_dearest {v : zV} : (a_dearest v).1 ≤ 3 := by
  unfold a_dearest
  (repeat' split) <;> exact Nat.le_of_ble_eq_true rfl
theorem ck_a_drain {v : zV} {x : Int32} {b : Bool} : (a_drain v x b).1 ≤ 3 := by
  unfold a_drain
  (repeat' split) <;> exact Nat.le_of_ble_eq_true rfl
theorem ck_a_fail {v : zV} {x : Int32} : (a_fail v x).1 ≤ 3 := by
  unfold a_fail
  (repeat' split) <;> exact Nat.le_of_ble_eq_true rfl
theorem ck_a_find {v : zV} {n : Nat} {B : Nat → Nat} {x : Int32} : (a_find v n B x).1 ≤ 3 := by
  unfold a_find
  (repeat' split) <;> exact Nat.le_of_ble_eq_true rfl
theorem ck_a_grant {v : zV} {x y : Int32} : (a_grant v x y).1 ≤ 3 := by
  unfold a_grant
  (repeat' split) <;> exact Nat.le_of_ble_eq_true rfl
theorem ck_a_group {v : zV} {x y : Int32} : (a_group v x y).1 ≤ 3 := by
  unfold a_group
  (repeat' split) <;> exact Nat.le_of_ble_eq_true rfl
theorem ck_a_groupsOn {v : zV} {x : Int32} : (a_groupsOn v x).1 ≤ 3 := by
  unfold a_groupsOn
  (repeat' split) <;> exact Nat.le_of_ble_eq_true rfl
theorem ck_a_history {v : zV} {x y : Int32} : (a_history v x y).1 ≤ 3 := by
  unfold a_history
  (repeat' split) <;> exact Nat.le_of_ble_eq_true rfl
theorem ck_a_loss {v : zV} {x : Int32} : (a_loss v x).1 ≤ 3 := by
  unfold a_loss
  (repeat' split) <;> exact Nat.le_of_ble_eq_true rfl
theorem ck_a_lossWithout {v : zV} {x y : Int32} : (a_lossWithout v x y).1 ≤ 3 := by
  unfold a_lossWithout
  (repeat' split) <;> exact Nat.le_of_ble_eq_true rfl
theorem ck_a_lostBy {v : zV} {x : Int32} : (a_lostBy v x).1 ≤ 3 := by
  unfold a_lostBy
  (repeat' split) <;> exact Nat.le_of_ble_eq_true rfl
theorem ck_a_mean {v : zV} {x : Int32} : (a_mean v x).1 ≤ 3 := by
  unfold a_mean
  (repeat' split) <;> exact Nat.le_of_ble_eq_true rfl
theorem ck_a_missing {v : zV} {x : Int32} : (a_missing v x).1 ≤ 3 := by
  unfold a_missing
  (repeat' split) <;> exact Nat.le_of_ble_eq_true rfl
theorem ck_a_move {v : zV} {x y z : Int32} : (a_move v x y z).1 ≤ 3 := by
  unfold a_move
  (repeat' split) <;> exact Nat.le_of_ble_eq_true rfl
theorem ck_a_node {v : zV} {x y : Int32} : (a_node v x y).1 ≤ 3 := by
  unfold a_node
  (repeat' split) <;> exact Nat.le_of_ble_eq_true rfl
theorem ck_a_nodeFrom {v : zV} {x : Int32} : (a_nodeFrom v x).1 ≤ 3 := by
  unfold a_nodeFrom
  (repeat' split) <;> exact Nat.le_of_ble_eq_true rfl
theorem ck_a_nodeOf {v : zV} {x y : Int32} : (a_nodeOf v x y).1 ≤ 3 := by
  unfold a_nodeOf
  (repeat' split) <;> exact Nat.le_of_ble_eq_true rfl
theorem ck_a_offer {v : zV} {x : Int32} : (a_offer v x).1 ≤ 3 := by
  unfold a_offer
  (repeat' split) <;> exact Nat.le_of_ble_eq_true rfl
theorem ck_a_outcome {v : zV} {x y : Int32} : (a_outcome v x y).1 ≤ 3 := by
  unfold a_outcome
  (repeat' split) <;> exact Nat.le_of_ble_eq_true rfl
theorem ck_a_outB {s : Nat × (Nat → Nat)} {x : Int32} : (a_outB s x).1 ≤ 3 := by
  unfold a_outB
  (repeat' split) <;> exact Nat.le_of_ble_eq_true rfl
theorem ck_a_purse {v : zV} {x y : Int32} : (a_purse v x y).1 ≤ 3 := by
  unfold a_purse
  (repeat' split) <;> exact Nat.le_of_ble_eq_true rfl
theorem ck_a_recover {v : zV} {x : Int32} : (a_recover v x).1 ≤ 3 := by
  unfold a_recover
  (repeat' split) <;> exact Nat.le_of_ble_eq_true rfl
theorem ck_a_rounds {v : zV} {x : Int32} : (a_rounds v x).1 ≤ 3 := by
  unfold a_rounds
  (repeat' split) <;> exact Nat.le_of_ble_eq_true rfl
theorem ck_a_toRepair {v : zV} {x : Int32} : (a_toRepair v x).1 ≤ 3 := by
  unfold a_toRepair
  (repeat' split) <;> exact Nat.le_of_ble_eq_true rfl
theorem ck_a_setBandwidth {v : zV} {x : Int32} : (a_setBandwidth v x).1 ≤ 3 := by
  unfold a_setBandwidth
  (repeat' split) <;> exact Nat.le_of_ble_eq_true rfl
theorem ck_a_setRisk {v : zV} {x y : Int32} : (a_setRisk v x y).1 ≤ 3 := by
  unfold a_setRisk
  (repeat' split) <;> exact Nat.le_of_ble_eq_true rfl
theorem ck_a_setRule {v : zV} {x : Int32} : (a_setRule v x).1 ≤ 3 := by
  unfold a_setRule
  (repeat' split) <;> exact Nat.le_of_ble_eq_true rfl
theorem ck_a_share {v : zV} {x : Int32} : (a_share v x).1 ≤ 3 := by
  unfold a_share
  (repeat' split) <;> exact Nat.le_of_ble_eq_true rfl
theorem ck_a_soldIn {v : zV} {x : Int32} : (a_soldIn v x).1 ≤ 3 := by
  unfold a_soldIn
  (repeat' split) <;> exact Nat.le_of_ble_eq_true rfl
theorem ck_a_target {v : zV} {x : Int32} : (a_target v x).1 ≤ 3 := by
  unfold a_target
  (repeat' split) <;> exact Nat.le_of_ble_eq_true rfl
theorem ck_a_tenant {v : zV} {x y : Int32} : (a_tenant v x y).1 ≤ 3 := by
  unfold a_tenant
  (repeat' split) <;> exact Nat.le_of_ble_eq_true rfl
theorem ck_a_trunc {n : Nat} {x : Int32} : (a_trunc n x).1 ≤ 3 := by
  unfold a_trunc
  (repeat' split) <;> exact Nat.le_of_ble_eq_true rfl
theorem ck_a_undo {un : Nat} : (a_undo un).1 ≤ 3 := by
  unfold a_undo
  (repeat' split) <;> exact Nat.le_of_ble_eq_true rfl
theorem ck_a_zoneShards {v : zV} {x : Int32} : (a_zoneShards v x).1 ≤ 3 := by
  unfold a_zoneShards
  (repeat' split) <;> exact Nat.le_of_ble_eq_true rfl
theorem ck_a_zonesOf {v : zV} {x : Int32} : (a_zonesOf v x).1 ≤ 3 := by
  unfold a_zonesOf
  (repeat' split) <;> exact Nat.le_of_ble_eq_true rfl
theorem zl_tr {n j : Nat} {x : Int32} (hj : j < (if zin x (n + 1) then xn x else n)) (hn : n ≤ 1400) : j < n := by
  by_cases q : zin x (n + 1) = true
  · rw [if_pos q] at hj
    obtain ⟨k, hk, rfl⟩ := (zin_iff (by omega)).mp q
    rw [xn_at (by omega)] at hj
    omega
  · rw [if_neg q] at hj; exact hj
theorem zl_fi {n j : Nat} {x : Int32} (hj : j < (if zin x 3 then 0 else n)) : j < n := by
  by_cases q : zin x 3 = true
  · rw [if_pos q] at hj; omega
  · rw [if_neg q] at hj; exact hj
theorem zIp.undo {S : zLS} (h : zIp S) : zIp ((if S.1.2.1 = 0 then (S.1.1, S.1.2.1, S.1.2.2) else (S.1.2.2 (S.1.2.1 - 1), S.1.2.1 - 1, S.1.2.2)), S.2) := by
  obtain ⟨hW, hN, h8, hU, hr⟩ := h
  by_cases q : S.1.2.1 = 0
  · rw [if_pos q]; exact ⟨hW, hN, h8, hU, hr⟩
  · rw [if_neg q]
    refine ⟨(hU _ (by omega)).1, (hU _ (by omega)).2, ?_, fun i hi => ?_, hr⟩
    · show S.1.2.1 - 1 ≤ 8; omega
    · have hi : i < S.1.2.1 - 1 := hi
      exact hU i (by omega)
theorem zIp.append {S : zLS} {x1 x2 x3 x4 x5 : Int32} (h : zIp S) : zIp (S.1, (if S.2.1.1 + 20 ≤ 1400 then S.2.1.1 + 20 else S.2.1.1, if S.2.1.1 + 20 ≤ 1400 then tapp S.2.1.2 S.2.1.1 x1 x2 x3 x4 x5 else S.2.1.2), S.2.2) := by
  obtain ⟨hW, hN, h8, hU, hn, hr⟩ := h
  refine ⟨hW, hN, h8, hU, ?_, hr⟩
  show (if S.2.1.1 + 20 ≤ 1400 then S.2.1.1 + 20 else S.2.1.1) ≤ 1400
  split <;> omega
theorem zIp.truncate {S : zLS} {x : Int32} (h : zIp S) : zIp (S.1, (if zin x (S.2.1.1 + 1) then xn x else S.2.1.1, S.2.1.2), S.2.2) := by
  obtain ⟨hW, hN, h8, hU, hn, hr⟩ := h
  refine ⟨hW, hN, h8, hU, ?_, hr⟩
  show (if zin x (S.2.1.1 + 1) then xn x else S.2.1.1) ≤ 1400
  by_cases q : zin x (S.2.1.1 + 1) = true
  · rw [if_pos q]
    obtain ⟨k, hk, e⟩ := (zin_iff (by omega)).mp q
    rw [e, xn_at (by omega)]
    omega
  · rw [if_neg q]; exact hn
theorem zIp.find {S : zLS} {x : Int32} (h : zIp S) : zIp (S.1, (if zin x 3 then 0 else S.2.1.1, S.2.1.2), S.2.2) := by
  obtain ⟨hW, hN, h8, hU, hn, hr⟩ := h
  refine ⟨hW, hN, h8, hU, ?_, hr⟩
  show (if zin x 3 then 0 else S.2.1.1) ≤ 1400
  split <;> omega
theorem zIp.writeBids {S : zLS} (h : zIp S) : zIp (S.1, S.2.1, wAll S.1.1, S.2.2.2) := by
  obtain ⟨hW, hN, h8, hU, hn, -, -, hc⟩ := h
  have := wAll_ok hW hN
  exact ⟨hW, hN, h8, hU, hn, Nat.le_trans this.1 (by decide), this.2, hc⟩
section S5
variable {B : Nat → Nat} {n : Nat} {v : zV} {s s' s'' : zS}
def s5 (s s' : zS) : Prop := s.1 ≤ 5 → s'.1 ≤ 5
theorem s5.tr (h : s5 s s') (h2 : s5 s' s'') : s5 s s'' := fun q => h2 (h q)
theorem s5_ref {k q : Nat} (hk : k ≤ 5) : s5 s (sRef k q s) := fun w => by unfold sRef; split <;> first | exact hk | exact w
theorem s5_err {k : Nat} {b : Bool} (hk : k ≤ 5) : s5 s (sErr k B n b s) := fun w => by unfold sErr; split <;> first | exact s5_ref hk w | exact w
theorem s5_next : s5 s (sNext B n s) := fun w => by unfold sNext; split <;> first | exact Nat.zero_le _ | exact w
theorem s5_take {i : Nat} : s5 s (sTake B n i s) := (s5_err (by decide)).tr s5_next
theorem s5_numE {lo hi : Nat} : s5 s (sNumE B n lo hi s) := fun w => by unfold sNumE; split <;> exact s5_err (by decide) w
theorem s5_num {lo hi : Nat} : s5 s (sNum B n lo hi s) := s5_numE.tr s5_next
theorem s5_nd : s5 s (nd10 B n v s) := (((((((((((s5_err (by decide)).tr s5_next).tr (s5_err (by decide))).tr (s5_err (by decide))).tr s5_next).tr s5_take).tr s5_numE).tr (s5_err (by decide))).tr s5_next).tr s5_take).tr s5_num |>.tr (s5_take.tr (s5_num.tr (s5_take.tr s5_num))))
theorem s5_tn : s5 s (tn6 B n v s) := ((((((((s5_err (by decide)).tr s5_next).tr (s5_err (by decide))).tr (s5_err (by decide))).tr s5_next).tr s5_take).tr s5_num).tr s5_take).tr s5_num
theorem s5_gp : s5 s (gp14 B n v s) := (((((((((((s5_err (by decide)).tr s5_next).tr (s5_err (by decide))).tr (s5_err (by decide))).tr s5_next).tr s5_take).tr (s5_err (by decide))).tr (s5_err (by decide))).tr s5_next).tr s5_take).tr s5_num).tr (s5_take.tr (s5_num.tr (s5_take.tr (s5_num.tr (s5_take.tr (s5_num.tr (s5_take.tr s5_num)))))))
theorem s5_rg : s5 s (rg9 B n s) := (((((((s5_take.tr s5_take).tr s5_num).tr s5_take).tr s5_num).tr s5_take).tr s5_num).tr s5_take).tr ((s5_err (by decide)).tr s5_next)
theorem s5_end : s5 s (sEnd B n s) := (s5_err (by decide)).tr s5_next
theorem s5_gp15 : s5 s (gp15 B n v s) := fun w => by
  unfold gp15
  split
  · exact s5_ref (by decide) (s5_gp w)
  · exact s5_gp w
theorem s5_st : s5 s (stS B n v s) := fun w => by
  unfold stS
  split
  · exact s5_end (s5_nd w)
  · split
    · exact s5_end (s5_tn w)
    · split
      · exact s5_end (s5_gp15 w)
      · exact s5_end (s5_ref (by decide) w)
end S5
theorem pAll_c5 {B : Nat → Nat} {n : Nat} : ∀ k, (pAll B n (p0 B n) k).1.1 ≤ 5 := by
  intro k
  induction k with
  | zero => exact s5_end (s5_rg (Nat.zero_le 5))
  | succ k ih =>
    rw [pAll_succ]
    unfold pIt
    split
    · exact s5_st ih
    · exact ih
theorem pEnd_c5 {B : Nat → Nat} {n : Nat} : (pEnd B n).1.1 ≤ 5 := by
  unfold pEnd
  generalize 1400 = m
  exact pAll_c5 m
def zLd (e : zS × zV) (S : zLS) : zLS := (((if e.1.1 = 0 then e.2 else S.1.1), (if e.1.1 = 0 then vkN S.1.2.1 else S.1.2.1), (if e.1.1 = 0 then vkU S.1.2.1 S.1.2.2 S.1.1 else S.1.2.2)), (0, S.2.1.2), S.2.2.1, (e.1.1, e.1.2.1))
theorem zIc.ld {e : zS × zV} {M M' : zM} {S : zLS} (h : zIc M S) (hl : zLc M M') (hC : zCl M' (if e.1.1 = 0 then e.2 else S.1.1)) (hU : zUd M' (if e.1.1 = 0 then vkN S.1.2.1 else S.1.2.1) (if e.1.1 = 0 then vkU S.1.2.1 S.1.2.2 S.1.1 else S.1.2.2)) (hB : zBy M' 100 0 S.2.1.2) (hZ : zRz M') (hc : M'.1 104 2 = nI e.1.1) (hp : e.1.1 ≠ 0 → M'.1 104 3 = nI e.1.2.1) : zIc M' (zLd e S) := h.l (u := (_, _, _)) hl hC hU hB hZ hc hp
theorem zIm.ld {e : zS × zV} {M M' : zM} {S : zLS} (h : zIm M S) (hl : zLm M M') (h17 : M'.1 118 17 = nI 0) (h4 : M'.1 118 4 = nI 0) (h23 : M'.1 118 23 = nI e.1.1) (h24 : e.1.1 ≠ 0 → M'.1 118 24 = nI e.1.2.1) (h240 : e.1.1 = 0 → M'.1 118 24 = -1) (hA : zRA M' 119 (if e.1.1 = 0 then e.2 else S.1.1)) (hU : zMu M' (if e.1.1 = 0 then vkN S.1.2.1 else S.1.2.1) (if e.1.1 = 0 then vkU S.1.2.1 S.1.2.2 S.1.1 else S.1.2.2)) : zIm M' (zLd e S) := h.l (u := (_, _, _)) hl h17 h4 h23 h24 h240 hA hU
theorem zIp.ld {e : zS × zV} {S : zLS} (h : zIp S) (h5 : e.1.1 ≤ 5) (hok : e.1.1 = 0 → zWF e.2 ∧ zNmS e.2) : zIp (zLd e S) := by
  have hk := h.keep (v2 := e.2) e.1.1 hok
  unfold skeep at hk
  obtain ⟨hW, hN, h8, hU, hn, ho, hc, -⟩ := h
  unfold zLd
  by_cases q : e.1.1 = 0
  · rw [if_pos q] at hk
    rw [if_pos q, if_pos q, if_pos q]
    exact ⟨hk.1, hk.2.1, hk.2.2.1, hk.2.2.2.1, Nat.zero_le _, ho, hc, h5⟩
  · rw [if_neg q, if_neg q, if_neg q]
    exact ⟨hW, hN, h8, hU, Nat.zero_le _, ho, hc, h5⟩
theorem zIp.load {S : zLS} (h : zIp S) : zIp (zLd (pEnd S.2.1.2 S.2.1.1) S) := h.ld pEnd_c5 (fun q => ⟨(pEnd_ok q).1, (pEnd_ok q).2.1⟩)
section ZB9
variable {G : zGx} {y : MethodName} {cc : ByteArray} {nL : Nat} {ret : Option FieldType} {R : Room} {Q : Option Value → zM → Prop} {X : String → zM → Prop} {a b pc n : Nat} {l t : List (Option Value)} {st : List Value} {M : zM}
theorem zj_iconstB_1 (hn : pc + 1 = n) (hd : decode cc pc = .ok (.iconst 1, 1)) (k : zJG G y cc nL ret R Q X a b n l (.int (zb true) :: st) M) : zJG G y cc nL ret R Q X a b pc l (st) M := zj_iconst_1 hn hd k
theorem zj_iconstB_0 (hn : pc + 1 = n) (hd : decode cc pc = .ok (.iconst 0, 1)) (k : zJG G y cc nL ret R Q X a b n l (.int (zb false) :: st) M) : zJG G y cc nL ret R Q X a b pc l (st) M := zj_iconst_0 hn hd k
end ZB9
theorem z_case0 {L i A B : Nat} {xs : Nat → Int32} {S : zLS} {Q : Option Value → zM → Prop} {X : String → zM → Prop} {M : zM} (hL : L ≤ 3072) (hi : i + 6 ≤ L) (hI : zI M S) (h : ∀ M' S', zI M' S' → zJG (zGL L xs) yL_law cL_law 10 (some .boolean) room_1 Q X A B 3048 [some (.ref 800), some (.ref 99), some (.ref 118), some (.ref 131), some (.ref 132), some (.int (nI i)), none, none, none, none] [] M') : zJG (zGL L xs) yL_law cL_law 10 (some .boolean) room_1 Q X (A + 1) (B + 6) 296 [some (.ref 800), some (.ref 99), some (.ref 118), some (.ref 131), some (.ref 132), some (.int (nI i)), none, none, none, none] [] M := by
  have hP := hI.2.2
  have hk9 : (a_append S.2.1.1).1 ≤ 3 := ck_a_append
  refine zj_aload1 (n := 297) rfl dL_law_296 ?_
  refine zj_aload0 (n := 298) rfl dL_law_297 ?_
  refine zj_iload5 (n := 300) rfl dL_law_298 ?_
  refine zj_iconstN_1 (n := 301) rfl dL_law_300 ?_
  refine zj_iaddN (n := 302) rfl dL_law_301 ?_
  refine zj_sldN hL (n := 303) rfl dL_law_302 (by omega) ?_
  refine zj_aload0 (n := 304) rfl dL_law_303 ?_
  refine zj_iload5 (n := 306) rfl dL_law_304 ?_
  refine zj_iconstN_2 (n := 307) rfl dL_law_306 ?_
  refine zj_iaddN (n := 308) rfl dL_law_307 ?_
  refine zj_sldN hL (n := 309) rfl dL_law_308 (by omega) ?_
  refine zj_aload0 (n := 310) rfl dL_law_309 ?_
  refine zj_iload5 (n := 312) rfl dL_law_310 ?_
  refine zj_iconstN_3 (n := 313) rfl dL_law_312 ?_
  refine zj_iaddN (n := 314) rfl dL_law_313 ?_
  refine zj_sldN hL (n := 315) rfl dL_law_314 (by omega) ?_
  refine zj_aload0 (n := 316) rfl dL_law_315 ?_
  refine zj_iload5 (n := 318) rfl dL_law_316 ?_
  refine zj_iconstN_4 (n := 319) rfl dL_law_318 ?_
  refine zj_iaddN (n := 320) rfl dL_law_319 ?_
  refine zj_sldN hL (n := 321) rfl dL_law_320 (by omega) ?_
  refine zj_aload0 (n := 322) rfl dL_law_321 ?_
  refine zj_iload5 (n := 324) rfl dL_law_322 ?_
  refine zj_iconstN_5 (n := 325) rfl dL_law_324 ?_
  refine zj_iaddN (n := 326) rfl dL_law_325 ?_
  refine zj_sldN hL (n := 327) rfl dL_law_326 (by omega) ?_
  refine zj_aload3 (n := 328) rfl dL_law_327 ?_
  refine zj_callLW7 (n := 331) (a' := A + 0) (b' := B + 0) rfl dL_law_328 zw_L_150 (by decide) (Nat.le_of_ble_eq_true rfl) (by show 1 + (A + 0) ≤ A + 1; omega) (by show 6 + (B + 0) ≤ B + 6; omega) (Nat.le_of_ble_eq_true rfl) (jL_append hI.1 hP (fun M1 hF1 hI1 hv1 => ?_))
  have hm := hI.2.1.fr hF1
  refine zj_istore6 (n := 333) rfl dL_law_331 rfl (Nat.le_of_ble_eq_true rfl) ?_
  refine zj_aload2 (n := 334) rfl dL_law_333 ?_
  refine zj_aload0 (n := 335) rfl dL_law_334 ?_
  refine zj_iload5 (n := 337) rfl dL_law_335 ?_
  refine zj_iconstN_1 (n := 338) rfl dL_law_337 ?_
  refine zj_iaddN (n := 339) rfl dL_law_338 ?_
  refine zj_sldN hL (n := 340) rfl dL_law_339 (by omega) ?_
  refine zj_aload0 (n := 341) rfl dL_law_340 ?_
  refine zj_iload5 (n := 343) rfl dL_law_341 ?_
  refine zj_iconstN_2 (n := 344) rfl dL_law_343 ?_
  refine zj_iaddN (n := 345) rfl dL_law_344 ?_
  refine zj_sldN hL (n := 346) rfl dL_law_345 (by omega) ?_
  refine zj_aload0 (n := 347) rfl dL_law_346 ?_
  refine zj_iload5 (n := 349) rfl dL_law_347 ?_
  refine zj_iconstN_3 (n := 350) rfl dL_law_349 ?_
  refine zj_iaddN (n := 351) rfl dL_law_350 ?_
  refine zj_sldN hL (n := 352) rfl dL_law_351 (by omega) ?_
  refine zj_aload0 (n := 353) rfl dL_law_352 ?_
  refine zj_iload5 (n := 355) rfl dL_law_353 ?_
  refine zj_iconstN_4 (n := 356) rfl dL_law_355 ?_
  refine zj_iaddN (n := 357) rfl dL_law_356 ?_
  refine zj_sldN hL (n := 358) rfl dL_law_357 (by omega) ?_
  refine zj_aload0 (n := 359) rfl dL_law_358 ?_
  refine zj_iload5 (n := 361) rfl dL_law_359 ?_
  refine zj_iconstN_5 (n := 362) rfl dL_law_361 ?_
  refine zj_iaddN (n := 363) rfl dL_law_362 ?_
  refine zj_sldN hL (n := 364) rfl dL_law_363 (by omega) ?_
  refine zj_callLV5 (n := 367) (R' := rX10_append) (a' := A + 0) (b' := B + 0) rfl dL_law_364 zm_L_155 (by decide) (by decide) rfl (Nat.le_of_ble_eq_true rfl) (by show 0 + (A + 0) ≤ A + 0; omega) (by show 0 + (B + 0) ≤ B + 0; omega) (Nat.le_of_ble_eq_true rfl) (jX10_append hm.2.2.2.1 hm.2.2.2.2.1 hP.2.2.2.2.1 (fun M2 hb2 ht2 h172 hB2 => ?_))
  have hI2 : zIm M2 (S.1, (if S.2.1.1 + 20 ≤ 1400 then S.2.1.1 + 20 else S.2.1.1, if S.2.1.1 + 20 ≤ 1400 then tapp S.2.1.2 S.2.1.1 (xs (i + 1)) (xs (i + 2)) (xs (i + 3)) (xs (i + 4)) (xs (i + 5)) else S.2.1.2), S.2.2) := hm.b hb2 h172 hB2
  have hf2 := zGc.fM hb2
  have hc2 := hI1.frM hf2
  have hv2 := fun q => (congrFun hf2.2.1 0).trans (hv1 q)
  refine zj_istore7 (n := 369) rfl dL_law_367 rfl (Nat.le_of_ble_eq_true rfl) ?_
  refine zj_aload2 (n := 370) rfl dL_law_369 ?_
  refine zj_callLV0 (n := 373) (a' := A + 0) (b' := B + 0) rfl dL_law_370 zm_L_156 (by decide) (by decide) rfl (Nat.le_of_ble_eq_true rfl) (by show 0 + (A + 0) ≤ A + 0; omega) (by show 0 + (B + 0) ≤ B + 0; omega) (Nat.le_of_ble_eq_true rfl) (jX10_thrownN ht2 ?_)
  refine zj_iload6 (n := 375) rfl dL_law_373 ?_
  refine zj_icmp_eq (n := 378) (tgt := 380) rfl dL_law_375 (by decide) (fun _ => ?_) (fun c9 => absurd rfl c9)
  refine zj_iload6 (n := 382) rfl dL_law_380 ?_
  refine zj_ifN_ne (n := 385) (tgt := 397) rfl dL_law_382 (by decide) (by omega) (fun c382 => ?_) (fun c382 => ?_)
  · refine zj_goto (tgt := 3048) dL_law_397 (by decide) ?_
    refine zj_keepG [true, true, true, true, true, true, false, false, false, false] ?_
    exact h M2 (S.1, (if S.2.1.1 + 20 ≤ 1400 then S.2.1.1 + 20 else S.2.1.1, if S.2.1.1 + 20 ≤ 1400 then tapp S.2.1.2 S.2.1.1 (xs (i + 1)) (xs (i + 2)) (xs (i + 3)) (xs (i + 4)) (xs (i + 5)) else S.2.1.2), S.2.2) ⟨hc2, hI2, zIp.append hP⟩
  · refine zj_aload3 (n := 386) rfl dL_law_385 ?_
    refine zj_iconstN_0 (n := 387) rfl dL_law_386 ?_
    refine zj_laloadW (x := (a_append S.2.1.1).2.toInt64) (n := 388) rfl dL_law_387 (by decide) rfl (by decide) (hv2 (by omega)) ?_
    refine zj_iload7 (n := 390) rfl dL_law_388 ?_
    refine zj_i2l (n := 391) rfl dL_law_390 ?_
    refine zj_lcmpE (n := 392) rfl dL_law_391 ?_
    refine zj_ifN_eq (n := 395) (tgt := 397) rfl dL_law_392 (by decide) (by omega) (fun _ => ?_) (fun h => absurd h (by decide))
    refine zj_goto (tgt := 3048) dL_law_397 (by decide) ?_
    refine zj_keepG [true, true, true, true, true, true, false, false, false, false] ?_
    exact h M2 (S.1, (if S.2.1.1 + 20 ≤ 1400 then S.2.1.1 + 20 else S.2.1.1, if S.2.1.1 + 20 ≤ 1400 then tapp S.2.1.2 S.2.1.1 (xs (i + 1)) (xs (i + 2)) (xs (i + 3)) (xs (i + 4)) (xs (i + 5)) else S.2.1.2), S.2.2) ⟨hc2, hI2, zIp.append hP⟩
theorem z_case1 {L i A B : Nat} {xs : Nat → Int32} {S : zLS} {Q : Option Value → zM → Prop} {X : String → zM → Prop} {M : zM} (hL : L ≤ 3072) (hi : i + 6 ≤ L) (hI : zI M S) (h : ∀ M' S', zI M' S' → zJG (zGL L xs) yL_law cL_law 10 (some .boolean) room_1 Q X A B 3048 [some (.ref 800), some (.ref 99), some (.ref 118), some (.ref 131), some (.ref 132), some (.int (nI i)), none, none, none, none] [] M') : zJG (zGL L xs) yL_law cL_law 10 (some .boolean) room_1 Q X (A + 1) (B + 6) 400 [some (.ref 800), some (.ref 99), some (.ref 118), some (.ref 131), some (.ref 132), some (.int (nI i)), none, none, none, none] [] M := by
  have hP := hI.2.2
  have hk9 : (a_trunc S.2.1.1 (xs (i + 1))).1 ≤ 3 := ck_a_trunc
  refine zj_aload1 (n := 401) rfl dL_law_400 ?_
  refine zj_aload0 (n := 402) rfl dL_law_401 ?_
  refine zj_iload5 (n := 404) rfl dL_law_402 ?_
  refine zj_iconstN_1 (n := 405) rfl dL_law_404 ?_
  refine zj_iaddN (n := 406) rfl dL_law_405 ?_
  refine zj_sldN hL (n := 407) rfl dL_law_406 (by omega) ?_
  refine zj_callLW2 (n := 410) (a' := A + 0) (b' := B + 0) rfl dL_law_407 zw_L_159 (by decide) (Nat.le_of_ble_eq_true rfl) (by show 1 + (A + 0) ≤ A + 1; omega) (by show 6 + (B + 0) ≤ B + 6; omega) (Nat.le_of_ble_eq_true rfl) (jL_truncate hI.1 hP (fun M1 hF1 hI1 => ?_))
  have hm := hI.2.1.fr hF1
  refine zj_istore6 (n := 412) rfl dL_law_410 rfl (Nat.le_of_ble_eq_true rfl) ?_
  refine zj_aload2 (n := 413) rfl dL_law_412 ?_
  refine zj_aload0 (n := 414) rfl dL_law_413 ?_
  refine zj_iload5 (n := 416) rfl dL_law_414 ?_
  refine zj_iconstN_1 (n := 417) rfl dL_law_416 ?_
  refine zj_iaddN (n := 418) rfl dL_law_417 ?_
  refine zj_sldN hL (n := 419) rfl dL_law_418 (by omega) ?_
  refine zj_callLV1 (n := 422) (R' := rX10_truncate) (a' := A + 0) (b' := B + 0) rfl dL_law_419 zm_L_162 (by decide) (by decide) rfl (Nat.le_of_ble_eq_true rfl) (by show 0 + (A + 0) ≤ A + 0; omega) (by show 0 + (B + 0) ≤ B + 0; omega) (Nat.le_of_ble_eq_true rfl) (jX10_truncate (B := S.2.1.2) hm.2.2.2.1 hP.2.2.2.2.1 (fun M2 hb2 h129 ht2 h172 => ?_))
  have hI2 : zIm M2 (S.1, (if zin (xs (i + 1)) (S.2.1.1 + 1) then xn (xs (i + 1)) else S.2.1.1, S.2.1.2), S.2.2) := hm.b hb2 h172 (fun j hj => by rw [h129]; exact hm.2.2.2.2.1 j (zl_tr hj hP.2.2.2.2.1))
  have hf2 := zGc.fM hb2
  have hc2 := hI1.frM hf2
  refine zj_aload2 (n := 423) rfl dL_law_422 ?_
  refine zj_callLV0 (n := 426) (a' := A + 0) (b' := B + 0) rfl dL_law_423 zm_L_156 (by decide) (by decide) rfl (Nat.le_of_ble_eq_true rfl) (by show 0 + (A + 0) ≤ A + 0; omega) (by show 0 + (B + 0) ≤ B + 0; omega) (Nat.le_of_ble_eq_true rfl) (jX10_thrownN ht2 ?_)
  refine zj_iload6 (n := 428) rfl dL_law_426 ?_
  refine zj_icmp_eq (n := 431) (tgt := 433) rfl dL_law_428 (by decide) (fun _ => ?_) (fun c9 => absurd rfl c9)
  refine zj_goto (tgt := 3048) dL_law_433 (by decide) ?_
  refine zj_keepG [true, true, true, true, true, true, false, false, false, false] ?_
  exact h M2 (S.1, (if zin (xs (i + 1)) (S.2.1.1 + 1) then xn (xs (i + 1)) else S.2.1.1, S.2.1.2), S.2.2) ⟨hc2, hI2, zIp.truncate hP⟩
theorem z_case2 {L i A B : Nat} {xs : Nat → Int32} {S : zLS} {Q : Option Value → zM → Prop} {X : String → zM → Prop} {M : zM} (hL : L ≤ 3072) (hi : i + 6 ≤ L) (hI : zI M S) (h : ∀ M' S', zI M' S' → zJG (zGL L xs) yL_law cL_law 10 (some .boolean) room_1 Q X A B 3048 [some (.ref 800), some (.ref 99), some (.ref 118), some (.ref 131), some (.ref 132), some (.int (nI i)), none, none, none, none] [] M') : zJG (zGL L xs) yL_law cL_law 10 (some .boolean) room_1 Q X (A + 0) (B + 0) 436 [some (.ref 800), some (.ref 99), some (.ref 118), some (.ref 131), some (.ref 132), some (.int (nI i)), none, none, none, none] [] M := by
  have hP := hI.2.2
  refine zj_aload1 (n := 437) rfl dL_law_436 ?_
  refine zj_callLV0 (n := 440) (a' := A + 0) (b' := B + 0) rfl dL_law_437 zm_L_163 (by decide) (by decide) rfl (Nat.le_of_ble_eq_true rfl) (by show 0 + (A + 0) ≤ A + 0; omega) (by show 0 + (B + 0) ≤ B + 0; omega) (Nat.le_of_ble_eq_true rfl) (jX9_load hI.1.1 hP.1 hI.1.2.1 hI.1.2.2.1 hI.1.2.2.2.2.2.2 (fun M1 hl1 hC1 hU1 hB1 hZ1 hc1 hp1 => ?_))
  have hF1 := hl1.fC
  have hI1 : zIc M1 (zLd (pEnd S.2.1.2 S.2.1.1) S) := hI.1.ld (e := pEnd S.2.1.2 S.2.1.1) hl1 hC1 hU1 hB1 hZ1 hc1 hp1
  have hm := hI.2.1.fr hF1
  refine zj_aload2 (n := 441) rfl dL_law_440 ?_
  refine zj_callLV0 (n := 444) (R' := rX10_load) (a' := A + 0) (b' := B + 0) rfl dL_law_441 zm_L_166 (by decide) (by decide) rfl (Nat.le_of_ble_eq_true rfl) (by show 0 + (A + 0) ≤ A + 0; omega) (by show 0 + (B + 0) ≤ B + 0; omega) (Nat.le_of_ble_eq_true rfl) (jX10_load hm.1 hm.2.2.1 hP.2.2.2.2.1 hm.2.2.2.1 hm.2.2.2.2.1 (fun M2 hl2 h0 h17 h4 h23 h24 h240 hA2 hU2 => ?_))
  have hI2 : zIm M2 (zLd (pEnd S.2.1.2 S.2.1.1) S) := hm.ld (e := pEnd S.2.1.2 S.2.1.1) hl2 h17 h4 h23 h24 h240 hA2 hU2
  have hf2 := hl2.fM
  have hc2 := hI1.frM hf2
  refine zj_icmp_eq (n := 447) (tgt := 3048) rfl dL_law_444 (by decide) (fun _ => ?_) (fun c9 => absurd rfl c9)
  refine zj_keepG [true, true, true, true, true, true, false, false, false, false] ?_
  exact h M2 (zLd (pEnd S.2.1.2 S.2.1.1) S) ⟨hc2, hI2, zIp.load hP⟩
theorem z_case3 {L i A B : Nat} {xs : Nat → Int32} {S : zLS} {Q : Option Value → zM → Prop} {X : String → zM → Prop} {M : zM} (hL : L ≤ 3072) (hi : i + 6 ≤ L) (hI : zI M S) (h : ∀ M' S', zI M' S' → zJG (zGL L xs) yL_law cL_law 10 (some .boolean) room_1 Q X A B 3048 [some (.ref 800), some (.ref 99), some (.ref 118), some (.ref 131), some (.ref 132), some (.int (nI i)), none, none, none, none] [] M') : zJG (zGL L xs) yL_law cL_law 10 (some .boolean) room_1 Q X (A + 0) (B + 0) 449 [some (.ref 800), some (.ref 99), some (.ref 118), some (.ref 131), some (.ref 132), some (.int (nI i)), none, none, none, none] [] M := by
  have hP := hI.2.2
  refine zj_aload1 (n := 450) rfl dL_law_449 ?_
  refine zj_callLV0 (n := 453) (a' := A + 0) (b' := B + 0) rfl dL_law_450 zm_L_167 (by decide) (by decide) rfl (Nat.le_of_ble_eq_true rfl) (by show 0 + (A + 0) ≤ A + 0; omega) (by show 0 + (B + 0) ≤ B + 0; omega) (Nat.le_of_ble_eq_true rfl) (jX9_errorCode hI.1.2.2.2.2.1 ?_)
  obtain ⟨M1, rfl⟩ : ∃ M1, M1 = M := ⟨M, rfl⟩
  have hF1 := zFrC.rf (M := M1)
  have hI1 := hI.1
  have hm := hI.2.1.fr hF1
  refine zj_aload2 (n := 454) rfl dL_law_453 ?_
  refine zj_callLV0 (n := 457) (R' := rX10_errorCode) (a' := A + 0) (b' := B + 0) rfl dL_law_454 zm_L_170 (by decide) (by decide) rfl (Nat.le_of_ble_eq_true rfl) (by show 0 + (A + 0) ≤ A + 0; omega) (by show 0 + (B + 0) ≤ B + 0; omega) (Nat.le_of_ble_eq_true rfl) (jX10_errorCode (fun M2 hq2 ht2 => ?_))
  have hI2 := hm.q hq2
  have hf2 := hq2.fM
  rw [hm.2.2.2.2.2.1]
  have hc2 := hI1.frM hf2
  refine zj_icmp_eq (n := 460) (tgt := 3048) rfl dL_law_457 (by decide) (fun _ => ?_) (fun c9 => absurd rfl c9)
  refine zj_keepG [true, true, true, true, true, true, false, false, false, false] ?_
  exact h M2 S ⟨hc2, hI2, hP⟩
theorem z_case4 {L i A B : Nat} {xs : Nat → Int32} {S : zLS} {Q : Option Value → zM → Prop} {X : String → zM → Prop} {M : zM} (hL : L ≤ 3072) (hi : i + 6 ≤ L) (hI : zI M S) (h : ∀ M' S', zI M' S' → zJG (zGL L xs) yL_law cL_law 10 (some .boolean) room_1 Q X A B 3048 [some (.ref 800), some (.ref 99), some (.ref 118), some (.ref 131), some (.ref 132), some (.int (nI i)), none, none, none, none] [] M') : zJG (zGL L xs) yL_law cL_law 10 (some .boolean) room_1 Q X (A + 0) (B + 0) 462 [some (.ref 800), some (.ref 99), some (.ref 118), some (.ref 131), some (.ref 132), some (.int (nI i)), none, none, none, none] [] M := by
  have hP := hI.2.2
  refine zj_aload1 (n := 463) rfl dL_law_462 ?_
  refine zj_callLV0 (n := 466) (a' := A + 0) (b' := B + 0) rfl dL_law_463 zm_L_171 (by decide) (by decide) rfl (Nat.le_of_ble_eq_true rfl) (by show 0 + (A + 0) ≤ A + 0; omega) (by show 0 + (B + 0) ≤ B + 0; omega) (Nat.le_of_ble_eq_true rfl) (jX9_errorPosition hI.1.2.2.2.2.1 hP.2.2.2.2.2.2.2 hI.1.2.2.2.2.2.1 ?_)
  obtain ⟨M1, rfl⟩ : ∃ M1, M1 = M := ⟨M, rfl⟩
  have hF1 := zFrC.rf (M := M1)
  have hI1 := hI.1
  have hm := hI.2.1.fr hF1
  refine zj_aload2 (n := 467) rfl dL_law_466 ?_
  refine zj_callLV0 (n := 470) (R' := rX10_errorPosition) (a' := A + 0) (b' := B + 0) rfl dL_law_467 zm_L_174 (by decide) (by decide) rfl (Nat.le_of_ble_eq_true rfl) (by show 0 + (A + 0) ≤ A + 0; omega) (by show 0 + (B + 0) ≤ B + 0; omega) (Nat.le_of_ble_eq_true rfl) (jX10_errorPosition (fun M2 hq2 ht2 => ?_))
  have hI2 := hm.q hq2
  have hf2 := hq2.fM
  rw [hm.2.2.2.2.2.2.1]
  have hc2 := hI1.frM hf2
  refine zj_icmp_eq (n := 473) (tgt := 3048) rfl dL_law_470 (by decide) (fun _ => ?_) (fun c9 => absurd rfl c9)
  refine zj_keepG [true, true, true, true, true, true, false, false, false, false] ?_
  exact h M2 S ⟨hc2, hI2, hP⟩
theorem z_case5 {L i A B : Nat} {xs : Nat → Int32} {S : zLS} {Q : Option Value → zM → Prop} {X : String → zM → Prop} {M : zM} (hL : L ≤ 3072) (hi : i + 6 ≤ L) (hI : zI M S) (h : ∀ M' S', zI M' S' → zJG (zGL L xs) yL_law cL_law 10 (some .boolean) room_1 Q X A B 3048 [some (.ref 800), some (.ref 99), some (.ref 118), some (.ref 131), some (.ref 132), some (.int (nI i)), none, none, none, none] [] M') : zJG (zGL L xs) yL_law cL_law 10 (some .boolean) room_1 Q X (A + 1) (B + 6) 475 [some (.ref 800), some (.ref 99), some (.ref 118), some (.ref 131), some (.ref 132), some (.int (nI i)), none, none, none, none] [] M := by
  have hP := hI.2.2
  have hk9 : (a_find S.1.1 S.2.1.1 S.2.1.2 (xs (i + 1))).1 ≤ 3 := ck_a_find
  refine zj_aload1 (n := 476) rfl dL_law_475 ?_
  refine zj_aload0 (n := 477) rfl dL_law_476 ?_
  refine zj_iload5 (n := 479) rfl dL_law_477 ?_
  refine zj_iconstN_1 (n := 480) rfl dL_law_479 ?_
  refine zj_iaddN (n := 481) rfl dL_law_480 ?_
  refine zj_sldN hL (n := 482) rfl dL_law_481 (by omega) ?_
  refine zj_aload3 (n := 483) rfl dL_law_482 ?_
  refine zj_callLW3 (n := 486) (a' := A + 0) (b' := B + 0) rfl dL_law_483 zw_L_175 (by decide) (Nat.le_of_ble_eq_true rfl) (by show 1 + (A + 0) ≤ A + 1; omega) (by show 6 + (B + 0) ≤ B + 6; omega) (Nat.le_of_ble_eq_true rfl) (jL_find hI.1 hP (fun M1 hF1 hI1 hv1 => ?_))
  have hm := hI.2.1.fr hF1
  refine zj_istore6 (n := 488) rfl dL_law_486 rfl (Nat.le_of_ble_eq_true rfl) ?_
  refine zj_aload2 (n := 489) rfl dL_law_488 ?_
  refine zj_aload0 (n := 490) rfl dL_law_489 ?_
  refine zj_iload5 (n := 492) rfl dL_law_490 ?_
  refine zj_iconstN_1 (n := 493) rfl dL_law_492 ?_
  refine zj_iaddN (n := 494) rfl dL_law_493 ?_
  refine zj_sldN hL (n := 495) rfl dL_law_494 (by omega) ?_
  refine zj_callLV1 (n := 498) (R' := rX10_find) (a' := A + 0) (b' := B + 0) rfl dL_law_495 zm_L_178 (by decide) (by decide) rfl (Nat.le_of_ble_eq_true rfl) (by show 0 + (A + 0) ≤ A + 0; omega) (by show 0 + (B + 0) ≤ B + 0; omega) (Nat.le_of_ble_eq_true rfl) (jX10_find hm.1 hP.1 hP.2.1 hm.2.2.2.1 hm.2.2.2.2.1 hP.2.2.2.2.1 (fun M2 hb2 h129 ht2 h172 => ?_))
  have hI2 : zIm M2 (S.1, (if zin (xs (i + 1)) 3 then 0 else S.2.1.1, S.2.1.2), S.2.2) := hm.b hb2 h172 (fun j hj => by rw [h129]; exact hm.2.2.2.2.1 j (zl_fi hj))
  have hf2 := zGc.fM hb2
  have hc2 := hI1.frM hf2
  have hv2 := fun q => (congrFun hf2.2.1 0).trans (hv1 q)
  refine zj_istore7 (n := 500) rfl dL_law_498 rfl (Nat.le_of_ble_eq_true rfl) ?_
  refine zj_aload2 (n := 501) rfl dL_law_500 ?_
  refine zj_callLV0 (n := 504) (a' := A + 0) (b' := B + 0) rfl dL_law_501 zm_L_156 (by decide) (by decide) rfl (Nat.le_of_ble_eq_true rfl) (by show 0 + (A + 0) ≤ A + 0; omega) (by show 0 + (B + 0) ≤ B + 0; omega) (Nat.le_of_ble_eq_true rfl) (jX10_thrownN ht2 ?_)
  refine zj_iload6 (n := 506) rfl dL_law_504 ?_
  refine zj_icmp_eq (n := 509) (tgt := 511) rfl dL_law_506 (by decide) (fun _ => ?_) (fun c9 => absurd rfl c9)
  refine zj_iload6 (n := 513) rfl dL_law_511 ?_
  refine zj_ifN_ne (n := 516) (tgt := 528) rfl dL_law_513 (by decide) (by omega) (fun c513 => ?_) (fun c513 => ?_)
  · refine zj_goto (tgt := 3048) dL_law_528 (by decide) ?_
    refine zj_keepG [true, true, true, true, true, true, false, false, false, false] ?_
    exact h M2 (S.1, (if zin (xs (i + 1)) 3 then 0 else S.2.1.1, S.2.1.2), S.2.2) ⟨hc2, hI2, zIp.find hP⟩
  · refine zj_aload3 (n := 517) rfl dL_law_516 ?_
    refine zj_iconstN_0 (n := 518) rfl dL_law_517 ?_
    refine zj_laloadW (x := (a_find S.1.1 S.2.1.1 S.2.1.2 (xs (i + 1))).2.toInt64) (n := 519) rfl dL_law_518 (by decide) rfl (by decide) (hv2 (by omega)) ?_
    refine zj_iload7 (n := 521) rfl dL_law_519 ?_
    refine zj_i2l (n := 522) rfl dL_law_521 ?_
    refine zj_lcmpE (n := 523) rfl dL_law_522 ?_
    refine zj_ifN_eq (n := 526) (tgt := 528) rfl dL_law_523 (by decide) (by omega) (fun _ => ?_) (fun h => absurd h (by decide))
    refine zj_goto (tgt := 3048) dL_law_528 (by decide) ?_
    refine zj_keepG [true, true, true, true, true, true, false, false, false, false] ?_
    exact h M2 (S.1, (if zin (xs (i + 1)) 3 then 0 else S.2.1.1, S.2.1.2), S.2.2) ⟨hc2, hI2, zIp.find hP⟩
theorem z_case6 {L i A B : Nat} {xs : Nat → Int32} {S : zLS} {Q : Option Value → zM → Prop} {X : String → zM → Prop} {M : zM} (hL : L ≤ 3072) (hi : i + 6 ≤ L) (hI : zI M S) (h : ∀ M' S', zI M' S' → zJG (zGL L xs) yL_law cL_law 10 (some .boolean) room_1 Q X A B 3048 [some (.ref 800), some (.ref 99), some (.ref 118), some (.ref 131), some (.ref 132), some (.int (nI i)), none, none, none, none] [] M') : zJG (zGL L xs) yL_law cL_law 10 (some .boolean) room_1 Q X (A + 1) (B + 6) 531 [some (.ref 800), some (.ref 99), some (.ref 118), some (.ref 131), some (.ref 132), some (.int (nI i)), none, none, none, none] [] M := by
  have hP := hI.2.2
  have hk9 : (a_count S.1.1 (xs (i + 1))).1 ≤ 3 := ck_a_count
  refine zj_aload1 (n := 532) rfl dL_law_531 ?_
  refine zj_aload0 (n := 533) rfl dL_law_532 ?_
  refine zj_iload5 (n := 535) rfl dL_law_533 ?_
  refine zj_iconstN_1 (n := 536) rfl dL_law_535 ?_
  refine zj_iaddN (n := 537) rfl dL_law_536 ?_
  refine zj_sldN hL (n := 538) rfl dL_law_537 (by omega) ?_
  refine zj_aload3 (n := 539) rfl dL_law_538 ?_
  refine zj_callLW3 (n := 542) (a' := A + 0) (b' := B + 0) rfl dL_law_539 zw_L_179 (by decide) (Nat.le_of_ble_eq_true rfl) (by show 1 + (A + 0) ≤ A + 1; omega) (by show 6 + (B + 0) ≤ B + 6; omega) (Nat.le_of_ble_eq_true rfl) (jL_count hI.1 hP (fun M1 hF1 hI1 hv1 => ?_))
  have hm := hI.2.1.fr hF1
  refine zj_istore6 (n := 544) rfl dL_law_542 rfl (Nat.le_of_ble_eq_true rfl) ?_
  refine zj_aload2 (n := 545) rfl dL_law_544 ?_
  refine zj_aload0 (n := 546) rfl dL_law_545 ?_
  refine zj_iload5 (n := 548) rfl dL_law_546 ?_
  refine zj_iconstN_1 (n := 549) rfl dL_law_548 ?_
  refine zj_iaddN (n := 550) rfl dL_law_549 ?_
  refine zj_sldN hL (n := 551) rfl dL_law_550 (by omega) ?_
  refine zj_callLV1 (n := 554) (R' := rX10_count) (a' := A + 0) (b' := B + 0) rfl dL_law_551 zm_L_181 (by decide) (by decide) rfl (Nat.le_of_ble_eq_true rfl) (by show 0 + (A + 0) ≤ A + 0; omega) (by show 0 + (B + 0) ≤ B + 0; omega) (Nat.le_of_ble_eq_true rfl) (jX10_count hm.1 hP.1 hm.2.1 (fun M2 hq2 ht2 => ?_))
  have hI2 := hm.q hq2
  have hf2 := hq2.fM
  have hc2 := hI1.frM hf2
  have hv2 := fun q => (congrFun hf2.2.1 0).trans (hv1 q)
  refine zj_istore7 (n := 556) rfl dL_law_554 rfl (Nat.le_of_ble_eq_true rfl) ?_
  refine zj_aload2 (n := 557) rfl dL_law_556 ?_
  refine zj_callLV0 (n := 560) (a' := A + 0) (b' := B + 0) rfl dL_law_557 zm_L_156 (by decide) (by decide) rfl (Nat.le_of_ble_eq_true rfl) (by show 0 + (A + 0) ≤ A + 0; omega) (by show 0 + (B + 0) ≤ B + 0; omega) (Nat.le_of_ble_eq_true rfl) (jX10_thrownN ht2 ?_)
  refine zj_iload6 (n := 562) rfl dL_law_560 ?_
  refine zj_icmp_eq (n := 565) (tgt := 567) rfl dL_law_562 (by decide) (fun _ => ?_) (fun c9 => absurd rfl c9)
  refine zj_iload6 (n := 569) rfl dL_law_567 ?_
  refine zj_ifN_ne (n := 572) (tgt := 584) rfl dL_law_569 (by decide) (by omega) (fun c569 => ?_) (fun c569 => ?_)
  · refine zj_goto (tgt := 3048) dL_law_584 (by decide) ?_
    refine zj_keepG [true, true, true, true, true, true, false, false, false, false] ?_
    exact h M2 S ⟨hc2, hI2, hP⟩
  · refine zj_aload3 (n := 573) rfl dL_law_572 ?_
    refine zj_iconstN_0 (n := 574) rfl dL_law_573 ?_
    refine zj_laloadW (x := (a_count S.1.1 (xs (i + 1))).2.toInt64) (n := 575) rfl dL_law_574 (by decide) rfl (by decide) (hv2 (by omega)) ?_
    refine zj_iload7 (n := 577) rfl dL_law_575 ?_
    refine zj_i2l (n := 578) rfl dL_law_577 ?_
    refine zj_lcmpE (n := 579) rfl dL_law_578 ?_
    refine zj_ifN_eq (n := 582) (tgt := 584) rfl dL_law_579 (by decide) (by omega) (fun _ => ?_) (fun h => absurd h (by decide))
    refine zj_goto (tgt := 3048) dL_law_584 (by decide) ?_
    refine zj_keepG [true, true, true, true, true, true, false, false, false, false] ?_
    exact h M2 S ⟨hc2, hI2, hP⟩
theorem z_case7 {L i A B : Nat} {xs : Nat → Int32} {S : zLS} {Q : Option Value → zM → Prop} {X : String → zM → Prop} {M : zM} (hL : L ≤ 3072) (hi : i + 6 ≤ L) (hI : zI M S) (h : ∀ M' S', zI M' S' → zJG (zGL L xs) yL_law cL_law 10 (some .boolean) room_1 Q X A B 3048 [some (.ref 800), some (.ref 99), some (.ref 118), some (.ref 131), some (.ref 132), some (.int (nI i)), none, none, none, none] [] M') : zJG (zGL L xs) yL_law cL_law 10 (some .boolean) room_1 Q X (A + 2) (B + 12) 587 [some (.ref 800), some (.ref 99), some (.ref 118), some (.ref 131), some (.ref 132), some (.int (nI i)), none, none, none, none] [] M := by
  have hP := hI.2.2
  have hk9 : (a_node S.1.1 (xs (i + 1)) (xs (i + 2))).1 ≤ 3 := ck_a_node
  refine zj_aload1 (n := 588) rfl dL_law_587 ?_
  refine zj_aload0 (n := 589) rfl dL_law_588 ?_
  refine zj_iload5 (n := 591) rfl dL_law_589 ?_
  refine zj_iconstN_1 (n := 592) rfl dL_law_591 ?_
  refine zj_iaddN (n := 593) rfl dL_law_592 ?_
  refine zj_sldN hL (n := 594) rfl dL_law_593 (by omega) ?_
  refine zj_aload0 (n := 595) rfl dL_law_594 ?_
  refine zj_iload5 (n := 597) rfl dL_law_595 ?_
  refine zj_iconstN_2 (n := 598) rfl dL_law_597 ?_
  refine zj_iaddN (n := 599) rfl dL_law_598 ?_
  refine zj_sldN hL (n := 600) rfl dL_law_599 (by omega) ?_
  refine zj_aload3 (n := 601) rfl dL_law_600 ?_
  refine zj_callLW4 (n := 604) (a' := A + 0) (b' := B + 0) rfl dL_law_601 zw_L_182 (by decide) (Nat.le_of_ble_eq_true rfl) (by show 2 + (A + 0) ≤ A + 2; omega) (by show 12 + (B + 0) ≤ B + 12; omega) (Nat.le_of_ble_eq_true rfl) (jL_node hI.1 hP (fun M1 hF1 hI1 hv1 => ?_))
  have hm := hI.2.1.fr hF1
  refine zj_istore6 (n := 606) rfl dL_law_604 rfl (Nat.le_of_ble_eq_true rfl) ?_
  refine zj_aload2 (n := 607) rfl dL_law_606 ?_
  refine zj_aload0 (n := 608) rfl dL_law_607 ?_
  refine zj_iload5 (n := 610) rfl dL_law_608 ?_
  refine zj_iconstN_1 (n := 611) rfl dL_law_610 ?_
  refine zj_iaddN (n := 612) rfl dL_law_611 ?_
  refine zj_sldN hL (n := 613) rfl dL_law_612 (by omega) ?_
  refine zj_aload0 (n := 614) rfl dL_law_613 ?_
  refine zj_iload5 (n := 616) rfl dL_law_614 ?_
  refine zj_iconstN_2 (n := 617) rfl dL_law_616 ?_
  refine zj_iaddN (n := 618) rfl dL_law_617 ?_
  refine zj_sldN hL (n := 619) rfl dL_law_618 (by omega) ?_
  refine zj_callLV2 (n := 622) (R' := rX10_node) (a' := A + 0) (b' := B + 0) rfl dL_law_619 zm_L_185 (by decide) (by decide) rfl (Nat.le_of_ble_eq_true rfl) (by show 0 + (A + 0) ≤ A + 0; omega) (by show 0 + (B + 0) ≤ B + 0; omega) (Nat.le_of_ble_eq_true rfl) (jX10_node hm.1 hP.1 hm.2.1 (fun M2 hq2 ht2 => ?_))
  have hI2 := hm.q hq2
  have hf2 := hq2.fM
  have hc2 := hI1.frM hf2
  have hv2 := fun q => (congrFun hf2.2.1 0).trans (hv1 q)
  refine zj_istore7 (n := 624) rfl dL_law_622 rfl (Nat.le_of_ble_eq_true rfl) ?_
  refine zj_aload2 (n := 625) rfl dL_law_624 ?_
  refine zj_callLV0 (n := 628) (a' := A + 0) (b' := B + 0) rfl dL_law_625 zm_L_156 (by decide) (by decide) rfl (Nat.le_of_ble_eq_true rfl) (by show 0 + (A + 0) ≤ A + 0; omega) (by show 0 + (B + 0) ≤ B + 0; omega) (Nat.le_of_ble_eq_true rfl) (jX10_thrownN ht2 ?_)
  refine zj_iload6 (n := 630) rfl dL_law_628 ?_
  refine zj_icmp_eq (n := 633) (tgt := 635) rfl dL_law_630 (by decide) (fun _ => ?_) (fun c9 => absurd rfl c9)
  refine zj_iload6 (n := 637) rfl dL_law_635 ?_
  refine zj_ifN_ne (n := 640) (tgt := 652) rfl dL_law_637 (by decide) (by omega) (fun c637 => ?_) (fun c637 => ?_)
  · refine zj_goto (tgt := 3048) dL_law_652 (by decide) ?_
    refine zj_keepG [true, true, true, true, true, true, false, false, false, false] ?_
    exact h M2 S ⟨hc2, hI2, hP⟩
  · refine zj_aload3 (n := 641) rfl dL_law_640 ?_
    refine zj_iconstN_0 (n := 642) rfl dL_law_641 ?_
    refine zj_laloadW (x := (a_node S.1.1 (xs (i + 1)) (xs (i + 2))).2.toInt64) (n := 643) rfl dL_law_642 (by decide) rfl (by decide) (hv2 (by omega)) ?_
    refine zj_iload7 (n := 645) rfl dL_law_643 ?_
    refine zj_i2l (n := 646) rfl dL_law_645 ?_
    refine zj_lcmpE (n := 647) rfl dL_law_646 ?_
    refine zj_ifN_eq (n := 650) (tgt := 652) rfl dL_law_647 (by decide) (by omega) (fun _ => ?_) (fun h => absurd h (by decide))
    refine zj_goto (tgt := 3048) dL_law_652 (by decide) ?_
    refine zj_keepG [true, true, true, true, true, true, false, false, false, false] ?_
    exact h M2 S ⟨hc2, hI2, hP⟩
theorem z_case8 {L i A B : Nat} {xs : Nat → Int32} {S : zLS} {Q : Option Value → zM → Prop} {X : String → zM → Prop} {M : zM} (hL : L ≤ 3072) (hi : i + 6 ≤ L) (hI : zI M S) (h : ∀ M' S', zI M' S' → zJG (zGL L xs) yL_law cL_law 10 (some .boolean) room_1 Q X A B 3048 [some (.ref 800), some (.ref 99), some (.ref 118), some (.ref 131), some (.ref 132), some (.int (nI i)), none, none, none, none] [] M') : zJG (zGL L xs) yL_law cL_law 10 (some .boolean) room_1 Q X (A + 1) (B + 6) 655 [some (.ref 800), some (.ref 99), some (.ref 118), some (.ref 131), some (.ref 132), some (.int (nI i)), none, none, none, none] [] M := by
  have hP := hI.2.2
  have hk9 : (a_groupsOn S.1.1 (xs (i + 1))).1 ≤ 3 := ck_a_groupsOn
  refine zj_aload1 (n := 656) rfl dL_law_655 ?_
  refine zj_aload0 (n := 657) rfl dL_law_656 ?_
  refine zj_iload5 (n := 659) rfl dL_law_657 ?_
  refine zj_iconstN_1 (n := 660) rfl dL_law_659 ?_
  refine zj_iaddN (n := 661) rfl dL_law_660 ?_
  refine zj_sldN hL (n := 662) rfl dL_law_661 (by omega) ?_
  refine zj_aload3 (n := 663) rfl dL_law_662 ?_
  refine zj_callLW3 (n := 666) (a' := A + 0) (b' := B + 0) rfl dL_law_663 zw_L_186 (by decide) (Nat.le_of_ble_eq_true rfl) (by show 1 + (A + 0) ≤ A + 1; omega) (by show 6 + (B + 0) ≤ B + 6; omega) (Nat.le_of_ble_eq_true rfl) (jL_groupsOn hI.1 hP (fun M1 hF1 hI1 hv1 => ?_))
  have hm := hI.2.1.fr hF1
  refine zj_istore6 (n := 668) rfl dL_law_666 rfl (Nat.le_of_ble_eq_true rfl) ?_
  refine zj_aload2 (n := 669) rfl dL_law_668 ?_
  refine zj_aload0 (n := 670) rfl dL_law_669 ?_
  refine zj_iload5 (n := 672) rfl dL_law_670 ?_
  refine zj_iconstN_1 (n := 673) rfl dL_law_672 ?_
  refine zj_iaddN (n := 674) rfl dL_law_673 ?_
  refine zj_sldN hL (n := 675) rfl dL_law_674 (by omega) ?_
  refine zj_callLV1 (n := 678) (R' := rX10_groupsOn) (a' := A + 0) (b' := B + 0) rfl dL_law_675 zm_L_188 (by decide) (by decide) rfl (Nat.le_of_ble_eq_true rfl) (by show 0 + (A + 0) ≤ A + 0; omega) (by show 0 + (B + 0) ≤ B + 0; omega) (Nat.le_of_ble_eq_true rfl) (jX10_groupsOn hm.1 hP.1 hm.2.1 (fun M2 hq2 ht2 => ?_))
  have hI2 := hm.q hq2
  have hf2 := hq2.fM
  have hc2 := hI1.frM hf2
  have hv2 := fun q => (congrFun hf2.2.1 0).trans (hv1 q)
  refine zj_istore7 (n := 680) rfl dL_law_678 rfl (Nat.le_of_ble_eq_true rfl) ?_
  refine zj_aload2 (n := 681) rfl dL_law_680 ?_
  refine zj_callLV0 (n := 684) (a' := A + 0) (b' := B + 0) rfl dL_law_681 zm_L_156 (by decide) (by decide) rfl (Nat.le_of_ble_eq_true rfl) (by show 0 + (A + 0) ≤ A + 0; omega) (by show 0 + (B + 0) ≤ B + 0; omega) (Nat.le_of_ble_eq_true rfl) (jX10_thrownN ht2 ?_)
  refine zj_iload6 (n := 686) rfl dL_law_684 ?_
  refine zj_icmp_eq (n := 689) (tgt := 691) rfl dL_law_686 (by decide) (fun _ => ?_) (fun c9 => absurd rfl c9)
  refine zj_iload6 (n := 693) rfl dL_law_691 ?_
  refine zj_ifN_ne (n := 696) (tgt := 708) rfl dL_law_693 (by decide) (by omega) (fun c693 => ?_) (fun c693 => ?_)
  · refine zj_goto (tgt := 3048) dL_law_708 (by decide) ?_
    refine zj_keepG [true, true, true, true, true, true, false, false, false, false] ?_
    exact h M2 S ⟨hc2, hI2, hP⟩
  · refine zj_aload3 (n := 697) rfl dL_law_696 ?_
    refine zj_iconstN_0 (n := 698) rfl dL_law_697 ?_
    refine zj_laloadW (x := (a_groupsOn S.1.1 (xs (i + 1))).2.toInt64) (n := 699) rfl dL_law_698 (by decide) rfl (by decide) (hv2 (by omega)) ?_
    refine zj_iload7 (n := 701) rfl dL_law_699 ?_
    refine zj_i2l (n := 702) rfl dL_law_701 ?_
    refine zj_lcmpE (n := 703) rfl dL_law_702 ?_
    refine zj_ifN_eq (n := 706) (tgt := 708) rfl dL_law_703 (by decide) (by omega) (fun _ => ?_) (fun h => absurd h (by decide))
    refine zj_goto (tgt := 3048) dL_law_708 (by decide) ?_
    refine zj_keepG [true, true, true, true, true, true, false, false, false, false] ?_
    exact h M2 S ⟨hc2, hI2, hP⟩
theorem z_case9 {L i A B : Nat} {xs : Nat → Int32} {S : zLS} {Q : Option Value → zM → Prop} {X : String → zM → Prop} {M : zM} (hL : L ≤ 3072) (hi : i + 6 ≤ L) (hI : zI M S) (h : ∀ M' S', zI M' S' → zJG (zGL L xs) yL_law cL_law 10 (some .boolean) room_1 Q X A B 3048 [some (.ref 800), some (.ref 99), some (.ref 118), some (.ref 131), some (.ref 132), some (.int (nI i)), none, none, none, none] [] M') : zJG (zGL L xs) yL_law cL_law 10 (some .boolean) room_1 Q X (A + 1) (B + 6) 711 [some (.ref 800), some (.ref 99), some (.ref 118), some (.ref 131), some (.ref 132), some (.int (nI i)), none, none, none, none] [] M := by
  have hP := hI.2.2
  have hk9 : (a_nodeFrom S.1.1 (xs (i + 1))).1 ≤ 3 := ck_a_nodeFrom
  refine zj_aload1 (n := 712) rfl dL_law_711 ?_
  refine zj_aload0 (n := 713) rfl dL_law_712 ?_
  refine zj_iload5 (n := 715) rfl dL_law_713 ?_
  refine zj_iconstN_1 (n := 716) rfl dL_law_715 ?_
  refine zj_iaddN (n := 717) rfl dL_law_716 ?_
  refine zj_sldN hL (n := 718) rfl dL_law_717 (by omega) ?_
  refine zj_aload3 (n := 719) rfl dL_law_718 ?_
  refine zj_callLW3 (n := 722) (a' := A + 0) (b' := B + 0) rfl dL_law_719 zw_L_189 (by decide) (Nat.le_of_ble_eq_true rfl) (by show 1 + (A + 0) ≤ A + 1; omega) (by show 6 + (B + 0) ≤ B + 6; omega) (Nat.le_of_ble_eq_true rfl) (jL_nodeFrom hI.1 hP (fun M1 hF1 hI1 hv1 => ?_))
  have hm := hI.2.1.fr hF1
  refine zj_istore6 (n := 724) rfl dL_law_722 rfl (Nat.le_of_ble_eq_true rfl) ?_
  refine zj_aload2 (n := 725) rfl dL_law_724 ?_
  refine zj_aload0 (n := 726) rfl dL_law_725 ?_
  refine zj_iload5 (n := 728) rfl dL_law_726 ?_
  refine zj_iconstN_1 (n := 729) rfl dL_law_728 ?_
  refine zj_iaddN (n := 730) rfl dL_law_729 ?_
  refine zj_sldN hL (n := 731) rfl dL_law_730 (by omega) ?_
  refine zj_callLV1 (n := 734) (R' := rX10_nodeFrom) (a' := A + 0) (b' := B + 0) rfl dL_law_731 zm_L_191 (by decide) (by decide) rfl (Nat.le_of_ble_eq_true rfl) (by show 0 + (A + 0) ≤ A + 0; omega) (by show 0 + (B + 0) ≤ B + 0; omega) (Nat.le_of_ble_eq_true rfl) (jX10_nodeFrom hm.1 hP.1 hm.2.1 (fun M2 hq2 ht2 => ?_))
  have hI2 := hm.q hq2
  have hf2 := hq2.fM
  have hc2 := hI1.frM hf2
  have hv2 := fun q => (congrFun hf2.2.1 0).trans (hv1 q)
  refine zj_istore7 (n := 736) rfl dL_law_734 rfl (Nat.le_of_ble_eq_true rfl) ?_
  refine zj_aload2 (n := 737) rfl dL_law_736 ?_
  refine zj_callLV0 (n := 740) (a' := A + 0) (b' := B + 0) rfl dL_law_737 zm_L_156 (by decide) (by decide) rfl (Nat.le_of_ble_eq_true rfl) (by show 0 + (A + 0) ≤ A + 0; omega) (by show 0 + (B + 0) ≤ B + 0; omega) (Nat.le_of_ble_eq_true rfl) (jX10_thrownN ht2 ?_)
  refine zj_iload6 (n := 742) rfl dL_law_740 ?_
  refine zj_icmp_eq (n := 745) (tgt := 747) rfl dL_law_742 (by decide) (fun _ => ?_) (fun c9 => absurd rfl c9)
  refine zj_iload6 (n := 749) rfl dL_law_747 ?_
  refine zj_ifN_ne (n := 752) (tgt := 764) rfl dL_law_749 (by decide) (by omega) (fun c749 => ?_) (fun c749 => ?_)
  · refine zj_goto (tgt := 3048) dL_law_764 (by decide) ?_
    refine zj_keepG [true, true, true, true, true, true, false, false, false, false] ?_
    exact h M2 S ⟨hc2, hI2, hP⟩
  · refine zj_aload3 (n := 753) rfl dL_law_752 ?_
    refine zj_iconstN_0 (n := 754) rfl dL_law_753 ?_
    refine zj_laloadW (x := (a_nodeFrom S.1.1 (xs (i + 1))).2.toInt64) (n := 755) rfl dL_law_754 (by decide) rfl (by decide) (hv2 (by omega)) ?_
    refine zj_iload7 (n := 757) rfl dL_law_755 ?_
    refine zj_i2l (n := 758) rfl dL_law_757 ?_
    refine zj_lcmpE (n := 759) rfl dL_law_758 ?_
    refine zj_ifN_eq (n := 762) (tgt := 764) rfl dL_law_759 (by decide) (by omega) (fun _ => ?_) (fun h => absurd h (by decide))
    refine zj_goto (tgt := 3048) dL_law_764 (by decide) ?_
    refine zj_keepG [true, true, true, true, true, true, false, false, false, false] ?_
    exact h M2 S ⟨hc2, hI2, hP⟩
theorem z_case10 {L i A B : Nat} {xs : Nat → Int32} {S : zLS} {Q : Option Value → zM → Prop} {X : String → zM → Prop} {M : zM} (hL : L ≤ 3072) (hi : i + 6 ≤ L) (hI : zI M S) (h : ∀ M' S', zI M' S' → zJG (zGL L xs) yL_law cL_law 10 (some .boolean) room_1 Q X A B 3048 [some (.ref 800), some (.ref 99), some (.ref 118), some (.ref 131), some (.ref 132), some (.int (nI i)), none, none, none, none] [] M') : zJG (zGL L xs) yL_law cL_law 10 (some .boolean) room_1 Q X (A + 2) (B + 12) 767 [some (.ref 800), some (.ref 99), some (.ref 118), some (.ref 131), some (.ref 132), some (.int (nI i)), none, none, none, none] [] M := by
  have hP := hI.2.2
  have hk9 : (a_clockwise S.1.1 (xs (i + 1)) (xs (i + 2))).1 ≤ 3 := ck_a_clockwise
  refine zj_aload1 (n := 768) rfl dL_law_767 ?_
  refine zj_aload0 (n := 769) rfl dL_law_768 ?_
  refine zj_iload5 (n := 771) rfl dL_law_769 ?_
  refine zj_iconstN_1 (n := 772) rfl dL_law_771 ?_
  refine zj_iaddN (n := 773) rfl dL_law_772 ?_
  refine zj_sldN hL (n := 774) rfl dL_law_773 (by omega) ?_
  refine zj_aload0 (n := 775) rfl dL_law_774 ?_
  refine zj_iload5 (n := 777) rfl dL_law_775 ?_
  refine zj_iconstN_2 (n := 778) rfl dL_law_777 ?_
  refine zj_iaddN (n := 779) rfl dL_law_778 ?_
  refine zj_sldN hL (n := 780) rfl dL_law_779 (by omega) ?_
  refine zj_aload3 (n := 781) rfl dL_law_780 ?_
  refine zj_callLW4 (n := 784) (a' := A + 0) (b' := B + 0) rfl dL_law_781 zw_L_192 (by decide) (Nat.le_of_ble_eq_true rfl) (by show 2 + (A + 0) ≤ A + 2; omega) (by show 12 + (B + 0) ≤ B + 12; omega) (Nat.le_of_ble_eq_true rfl) (jL_clockwise hI.1 hP (fun M1 hF1 hI1 hv1 => ?_))
  have hm := hI.2.1.fr hF1
  refine zj_istore6 (n := 786) rfl dL_law_784 rfl (Nat.le_of_ble_eq_true rfl) ?_
  refine zj_aload2 (n := 787) rfl dL_law_786 ?_
  refine zj_aload0 (n := 788) rfl dL_law_787 ?_
  refine zj_iload5 (n := 790) rfl dL_law_788 ?_
  refine zj_iconstN_1 (n := 791) rfl dL_law_790 ?_
  refine zj_iaddN (n := 792) rfl dL_law_791 ?_
  refine zj_sldN hL (n := 793) rfl dL_law_792 (by omega) ?_
  refine zj_aload0 (n := 794) rfl dL_law_793 ?_
  refine zj_iload5 (n := 796) rfl dL_law_794 ?_
  refine zj_iconstN_2 (n := 797) rfl dL_law_796 ?_
  refine zj_iaddN (n := 798) rfl dL_law_797 ?_
  refine zj_sldN hL (n := 799) rfl dL_law_798 (by omega) ?_
  refine zj_callLV2 (n := 802) (R' := rX10_clockwise) (a' := A + 0) (b' := B + 0) rfl dL_law_799 zm_L_194 (by decide) (by decide) rfl (Nat.le_of_ble_eq_true rfl) (by show 0 + (A + 0) ≤ A + 0; omega) (by show 0 + (B + 0) ≤ B + 0; omega) (Nat.le_of_ble_eq_true rfl) (jX10_clockwise hm.1 hP.1 hm.2.1 (fun M2 hq2 ht2 => ?_))
  have hI2 := hm.q hq2
  have hf2 := hq2.fM
  have hc2 := hI1.frM hf2
  have hv2 := fun q => (congrFun hf2.2.1 0).trans (hv1 q)
  refine zj_istore7 (n := 804) rfl dL_law_802 rfl (Nat.le_of_ble_eq_true rfl) ?_
  refine zj_aload2 (n := 805) rfl dL_law_804 ?_
  refine zj_callLV0 (n := 808) (a' := A + 0) (b' := B + 0) rfl dL_law_805 zm_L_156 (by decide) (by decide) rfl (Nat.le_of_ble_eq_true rfl) (by show 0 + (A + 0) ≤ A + 0; omega) (by show 0 + (B + 0) ≤ B + 0; omega) (Nat.le_of_ble_eq_true rfl) (jX10_thrownN ht2 ?_)
  refine zj_iload6 (n := 810) rfl dL_law_808 ?_
  refine zj_icmp_eq (n := 813) (tgt := 815) rfl dL_law_810 (by decide) (fun _ => ?_) (fun c9 => absurd rfl c9)
  refine zj_iload6 (n := 817) rfl dL_law_815 ?_
  refine zj_ifN_ne (n := 820) (tgt := 832) rfl dL_law_817 (by decide) (by omega) (fun c817 => ?_) (fun c817 => ?_)
  · refine zj_goto (tgt := 3048) dL_law_832 (by decide) ?_
    refine zj_keepG [true, true, true, true, true, true, false, false, false, false] ?_
    exact h M2 S ⟨hc2, hI2, hP⟩
  · refine zj_aload3 (n := 821) rfl dL_law_820 ?_
    refine zj_iconstN_0 (n := 822) rfl dL_law_821 ?_
    refine zj_laloadW (x := (a_clockwise S.1.1 (xs (i + 1)) (xs (i + 2))).2.toInt64) (n := 823) rfl dL_law_822 (by decide) rfl (by decide) (hv2 (by omega)) ?_
    refine zj_iload7 (n := 825) rfl dL_law_823 ?_
    refine zj_i2l (n := 826) rfl dL_law_825 ?_
    refine zj_lcmpE (n := 827) rfl dL_law_826 ?_
    refine zj_ifN_eq (n := 830) (tgt := 832) rfl dL_law_827 (by decide) (by omega) (fun _ => ?_) (fun h => absurd h (by decide))
    refine zj_goto (tgt := 3048) dL_law_832 (by decide) ?_
    refine zj_keepG [true, true, true, true, true, true, false, false, false, false] ?_
    exact h M2 S ⟨hc2, hI2, hP⟩
theorem z_case11 {L i A B : Nat} {xs : Nat → Int32} {S : zLS} {Q : Option Value → zM → Prop} {X : String → zM → Prop} {M : zM} (hL : L ≤ 3072) (hi : i + 6 ≤ L) (hI : zI M S) (h : ∀ M' S', zI M' S' → zJG (zGL L xs) yL_law cL_law 10 (some .boolean) room_1 Q X A B 3048 [some (.ref 800), some (.ref 99), some (.ref 118), some (.ref 131), some (.ref 132), some (.int (nI i)), none, none, none, none] [] M') : zJG (zGL L xs) yL_law cL_law 10 (some .boolean) room_1 Q X (A + 1) (B + 6) 835 [some (.ref 800), some (.ref 99), some (.ref 118), some (.ref 131), some (.ref 132), some (.int (nI i)), none, none, none, none] [] M := by
  have hP := hI.2.2
  have hk9 : (a_zoneShards S.1.1 (xs (i + 1))).1 ≤ 3 := ck_a_zoneShards
  refine zj_aload1 (n := 836) rfl dL_law_835 ?_
  refine zj_aload0 (n := 837) rfl dL_law_836 ?_
  refine zj_iload5 (n := 839) rfl dL_law_837 ?_
  refine zj_iconstN_1 (n := 840) rfl dL_law_839 ?_
  refine zj_iaddN (n := 841) rfl dL_law_840 ?_
  refine zj_sldN hL (n := 842) rfl dL_law_841 (by omega) ?_
  refine zj_aload3 (n := 843) rfl dL_law_842 ?_
  refine zj_callLW3 (n := 846) (a' := A + 0) (b' := B + 0) rfl dL_law_843 zw_L_195 (by decide) (Nat.le_of_ble_eq_true rfl) (by show 1 + (A + 0) ≤ A + 1; omega) (by show 6 + (B + 0) ≤ B + 6; omega) (Nat.le_of_ble_eq_true rfl) (jL_zoneShards hI.1 hP (fun M1 hF1 hI1 hv1 => ?_))
  have hm := hI.2.1.fr hF1
  refine zj_istore6 (n := 848) rfl dL_law_846 rfl (Nat.le_of_ble_eq_true rfl) ?_
  refine zj_aload2 (n := 849) rfl dL_law_848 ?_
  refine zj_aload0 (n := 850) rfl dL_law_849 ?_
  refine zj_iload5 (n := 852) rfl dL_law_850 ?_
  refine zj_iconstN_1 (n := 853) rfl dL_law_852 ?_
  refine zj_iaddN (n := 854) rfl dL_law_853 ?_
  refine zj_sldN hL (n := 855) rfl dL_law_854 (by omega) ?_
  refine zj_callLV1 (n := 858) (R' := rX10_zoneShards) (a' := A + 0) (b' := B + 0) rfl dL_law_855 zm_L_197 (by decide) (by decide) rfl (Nat.le_of_ble_eq_true rfl) (by show 0 + (A + 0) ≤ A + 0; omega) (by show 0 + (B + 0) ≤ B + 0; omega) (Nat.le_of_ble_eq_true rfl) (jX10_zoneShards hm.1 hP.1 hm.2.1 (fun M2 hq2 ht2 => ?_))
  have hI2 := hm.q hq2
  have hf2 := hq2.fM
  have hc2 := hI1.frM hf2
  have hv2 := fun q => (congrFun hf2.2.1 0).trans (hv1 q)
  refine zj_istore7 (n := 860) rfl dL_law_858 rfl (Nat.le_of_ble_eq_true rfl) ?_
  refine zj_aload2 (n := 861) rfl dL_law_860 ?_
  refine zj_callLV0 (n := 864) (a' := A + 0) (b' := B + 0) rfl dL_law_861 zm_L_156 (by decide) (by decide) rfl (Nat.le_of_ble_eq_true rfl) (by show 0 + (A + 0) ≤ A + 0; omega) (by show 0 + (B + 0) ≤ B + 0; omega) (Nat.le_of_ble_eq_true rfl) (jX10_thrownN ht2 ?_)
  refine zj_iload6 (n := 866) rfl dL_law_864 ?_
  refine zj_icmp_eq (n := 869) (tgt := 871) rfl dL_law_866 (by decide) (fun _ => ?_) (fun c9 => absurd rfl c9)
  refine zj_iload6 (n := 873) rfl dL_law_871 ?_
  refine zj_ifN_ne (n := 876) (tgt := 888) rfl dL_law_873 (by decide) (by omega) (fun c873 => ?_) (fun c873 => ?_)
  · refine zj_goto (tgt := 3048) dL_law_888 (by decide) ?_
    refine zj_keepG [true, true, true, true, true, true, false, false, false, false] ?_
    exact h M2 S ⟨hc2, hI2, hP⟩
  · refine zj_aload3 (n := 877) rfl dL_law_876 ?_
    refine zj_iconstN_0 (n := 878) rfl dL_law_877 ?_
    refine zj_laloadW (x := (a_zoneShards S.1.1 (xs (i + 1))).2.toInt64) (n := 879) rfl dL_law_878 (by decide) rfl (by decide) (hv2 (by omega)) ?_
    refine zj_iload7 (n := 881) rfl dL_law_879 ?_
    refine zj_i2l (n := 882) rfl dL_law_881 ?_
    refine zj_lcmpE (n := 883) rfl dL_law_882 ?_
    refine zj_ifN_eq (n := 886) (tgt := 888) rfl dL_law_883 (by decide) (by omega) (fun _ => ?_) (fun h => absurd h (by decide))
    refine zj_goto (tgt := 3048) dL_law_888 (by decide) ?_
    refine zj_keepG [true, true, true, true, true, true, false, false, false, false] ?_
    exact h M2 S ⟨hc2, hI2, hP⟩
theorem z_case12 {L i A B : Nat} {xs : Nat → Int32} {S : zLS} {Q : Option Value → zM → Prop} {X : String → zM → Prop} {M : zM} (hL : L ≤ 3072) (hi : i + 6 ≤ L) (hI : zI M S) (h : ∀ M' S', zI M' S' → zJG (zGL L xs) yL_law cL_law 10 (some .boolean) room_1 Q X A B 3048 [some (.ref 800), some (.ref 99), some (.ref 118), some (.ref 131), some (.ref 132), some (.int (nI i)), none, none, none, none] [] M') : zJG (zGL L xs) yL_law cL_law 10 (some .boolean) room_1 Q X (A + 2) (B + 12) 891 [some (.ref 800), some (.ref 99), some (.ref 118), some (.ref 131), some (.ref 132), some (.int (nI i)), none, none, none, none] [] M := by
  have hP := hI.2.2
  have hk9 : (a_tenant S.1.1 (xs (i + 1)) (xs (i + 2))).1 ≤ 3 := ck_a_tenant
  refine zj_aload1 (n := 892) rfl dL_law_891 ?_
  refine zj_aload0 (n := 893) rfl dL_law_892 ?_
  refine zj_iload5 (n := 895) rfl dL_law_893 ?_
  refine zj_iconstN_1 (n := 896) rfl dL_law_895 ?_
  refine zj_iaddN (n := 897) rfl dL_law_896 ?_
  refine zj_sldN hL (n := 898) rfl dL_law_897 (by omega) ?_
  refine zj_aload0 (n := 899) rfl dL_law_898 ?_
  refine zj_iload5 (n := 901) rfl dL_law_899 ?_
  refine zj_iconstN_2 (n := 902) rfl dL_law_901 ?_
  refine zj_iaddN (n := 903) rfl dL_law_902 ?_
  refine zj_sldN hL (n := 904) rfl dL_law_903 (by omega) ?_
  refine zj_aload3 (n := 905) rfl dL_law_904 ?_
  refine zj_callLW4 (n := 908) (a' := A + 0) (b' := B + 0) rfl dL_law_905 zw_L_198 (by decide) (Nat.le_of_ble_eq_true rfl) (by show 2 + (A + 0) ≤ A + 2; omega) (by show 12 + (B + 0) ≤ B + 12; omega) (Nat.le_of_ble_eq_true rfl) (jL_tenant hI.1 hP (fun M1 hF1 hI1 hv1 => ?_))
  have hm := hI.2.1.fr hF1
  refine zj_istore6 (n := 910) rfl dL_law_908 rfl (Nat.le_of_ble_eq_true rfl) ?_
  refine zj_aload2 (n := 911) rfl dL_law_910 ?_
  refine zj_aload0 (n := 912) rfl dL_law_911 ?_
  refine zj_iload5 (n := 914) rfl dL_law_912 ?_
  refine zj_iconstN_1 (n := 915) rfl dL_law_914 ?_
  refine zj_iaddN (n := 916) rfl dL_law_915 ?_
  refine zj_sldN hL (n := 917) rfl dL_law_916 (by omega) ?_
  refine zj_aload0 (n := 918) rfl dL_law_917 ?_
  refine zj_iload5 (n := 920) rfl dL_law_918 ?_
  refine zj_iconstN_2 (n := 921) rfl dL_law_920 ?_
  refine zj_iaddN (n := 922) rfl dL_law_921 ?_
  refine zj_sldN hL (n := 923) rfl dL_law_922 (by omega) ?_
  refine zj_callLV2 (n := 926) (R' := rX10_tenant) (a' := A + 0) (b' := B + 0) rfl dL_law_923 zm_L_200 (by decide) (by decide) rfl (Nat.le_of_ble_eq_true rfl) (by show 0 + (A + 0) ≤ A + 0; omega) (by show 0 + (B + 0) ≤ B + 0; omega) (Nat.le_of_ble_eq_true rfl) (jX10_tenant hm.1 hP.1 hm.2.1 (fun M2 hq2 ht2 => ?_))
  have hI2 := hm.q hq2
  have hf2 := hq2.fM
  have hc2 := hI1.frM hf2
  have hv2 := fun q => (congrFun hf2.2.1 0).trans (hv1 q)
  refine zj_istore7 (n := 928) rfl dL_law_926 rfl (Nat.le_of_ble_eq_true rfl) ?_
  refine zj_aload2 (n := 929) rfl dL_law_928 ?_
  refine zj_callLV0 (n := 932) (a' := A + 0) (b' := B + 0) rfl dL_law_929 zm_L_156 (by decide) (by decide) rfl (Nat.le_of_ble_eq_true rfl) (by show 0 + (A + 0) ≤ A + 0; omega) (by show 0 + (B + 0) ≤ B + 0; omega) (Nat.le_of_ble_eq_true rfl) (jX10_thrownN ht2 ?_)
  refine zj_iload6 (n := 934) rfl dL_law_932 ?_
  refine zj_icmp_eq (n := 937) (tgt := 939) rfl dL_law_934 (by decide) (fun _ => ?_) (fun c9 => absurd rfl c9)
  refine zj_iload6 (n := 941) rfl dL_law_939 ?_
  refine zj_ifN_ne (n := 944) (tgt := 956) rfl dL_law_941 (by decide) (by omega) (fun c941 => ?_) (fun c941 => ?_)
  · refine zj_goto (tgt := 3048) dL_law_956 (by decide) ?_
    refine zj_keepG [true, true, true, true, true, true, false, false, false, false] ?_
    exact h M2 S ⟨hc2, hI2, hP⟩
  · refine zj_aload3 (n := 945) rfl dL_law_944 ?_
    refine zj_iconstN_0 (n := 946) rfl dL_law_945 ?_
    refine zj_laloadW (x := (a_tenant S.1.1 (xs (i + 1)) (xs (i + 2))).2.toInt64) (n := 947) rfl dL_law_946 (by decide) rfl (by decide) (hv2 (by omega)) ?_
    refine zj_iload7 (n := 949) rfl dL_law_947 ?_
    refine zj_i2l (n := 950) rfl dL_law_949 ?_
    refine zj_lcmpE (n := 951) rfl dL_law_950 ?_
    refine zj_ifN_eq (n := 954) (tgt := 956) rfl dL_law_951 (by decide) (by omega) (fun _ => ?_) (fun h => absurd h (by decide))
    refine zj_goto (tgt := 3048) dL_law_956 (by decide) ?_
    refine zj_keepG [true, true, true, true, true, true, false, false, false, false] ?_
    exact h M2 S ⟨hc2, hI2, hP⟩
theorem z_case13 {L i A B : Nat} {xs : Nat → Int32} {S : zLS} {Q : Option Value → zM → Prop} {X : String → zM → Prop} {M : zM} (hL : L ≤ 3072) (hi : i + 6 ≤ L) (hI : zI M S) (h : ∀ M' S', zI M' S' → zJG (zGL L xs) yL_law cL_law 10 (some .boolean) room_1 Q X A B 3048 [some (.ref 800), some (.ref 99), some (.ref 118), some (.ref 131), some (.ref 132), some (.int (nI i)), none, none, none, none] [] M') : zJG (zGL L xs) yL_law cL_law 10 (some .boolean) room_1 Q X (A + 1) (B + 6) 959 [some (.ref 800), some (.ref 99), some (.ref 118), some (.ref 131), some (.ref 132), some (.int (nI i)), none, none, none, none] [] M := by
  have hP := hI.2.2
  have hk9 : (a_share S.1.1 (xs (i + 1))).1 ≤ 3 := ck_a_share
  refine zj_aload1 (n := 960) rfl dL_law_959 ?_
  refine zj_aload0 (n := 961) rfl dL_law_960 ?_
  refine zj_iload5 (n := 963) rfl dL_law_961 ?_
  refine zj_iconstN_1 (n := 964) rfl dL_law_963 ?_
  refine zj_iaddN (n := 965) rfl dL_law_964 ?_
  refine zj_sldN hL (n := 966) rfl dL_law_965 (by omega) ?_
  refine zj_aload4 (n := 968) rfl dL_law_966 ?_
  refine zj_callLW3 (n := 971) (a' := A + 0) (b' := B + 0) rfl dL_law_968 zw_L_201 (by decide) (Nat.le_of_ble_eq_true rfl) (by show 1 + (A + 0) ≤ A + 1; omega) (by show 6 + (B + 0) ≤ B + 6; omega) (Nat.le_of_ble_eq_true rfl) (jL_share hI.1 hP (fun M1 hF1 hI1 hv1 => ?_))
  have hm := hI.2.1.fr hF1
  refine zj_istore6 (n := 973) rfl dL_law_971 rfl (Nat.le_of_ble_eq_true rfl) ?_
  refine zj_aload2 (n := 974) rfl dL_law_973 ?_
  refine zj_aload0 (n := 975) rfl dL_law_974 ?_
  refine zj_iload5 (n := 977) rfl dL_law_975 ?_
  refine zj_iconstN_1 (n := 978) rfl dL_law_977 ?_
  refine zj_iaddN (n := 979) rfl dL_law_978 ?_
  refine zj_sldN hL (n := 980) rfl dL_law_979 (by omega) ?_
  refine zj_callLV1 (n := 983) (R' := rX10_share) (a' := A + 0) (b' := B + 0) rfl dL_law_980 zm_L_204 (by decide) (by decide) rfl (Nat.le_of_ble_eq_true rfl) (by show 0 + (A + 0) ≤ A + 0; omega) (by show 0 + (B + 0) ≤ B + 0; omega) (Nat.le_of_ble_eq_true rfl) (jX10_share hm.1 hP.1 hm.2.1 (fun M2 hq2 ht2 => ?_))
  have hI2 := hm.q hq2
  have hf2 := hq2.fM
  have hc2 := hI1.frM hf2
  have hv2 := fun q => (congrFun (congrFun hf2.2.2 132) 0).trans (hv1 q)
  refine zj_dstore7 (n := 985) rfl dL_law_983 rfl (Nat.le_of_ble_eq_true rfl) ?_
  refine zj_aload2 (n := 986) rfl dL_law_985 ?_
  refine zj_callLV0 (n := 989) (a' := A + 0) (b' := B + 0) rfl dL_law_986 zm_L_156 (by decide) (by decide) rfl (Nat.le_of_ble_eq_true rfl) (by show 0 + (A + 0) ≤ A + 0; omega) (by show 0 + (B + 0) ≤ B + 0; omega) (Nat.le_of_ble_eq_true rfl) (jX10_thrownN ht2 ?_)
  refine zj_iload6 (n := 991) rfl dL_law_989 ?_
  refine zj_icmp_eq (n := 994) (tgt := 996) rfl dL_law_991 (by decide) (fun _ => ?_) (fun c9 => absurd rfl c9)
  refine zj_iload6 (n := 998) rfl dL_law_996 ?_
  refine zj_ifN_ne (n := 1001) (tgt := 1033) rfl dL_law_998 (by decide) (by omega) (fun c998 => ?_) (fun c998 => ?_)
  · refine zj_goto (tgt := 3048) dL_law_1033 (by decide) ?_
    refine zj_keepG [true, true, true, true, true, true, false, false, false, false] ?_
    exact h M2 S ⟨hc2, hI2, hP⟩
  · refine zj_aload4 (n := 1003) rfl dL_law_1001 ?_
    refine zj_iconstN_0 (n := 1004) rfl dL_law_1003 ?_
    refine zj_daloadW (x := (a_share S.1.1 (xs (i + 1))).2) (n := 1005) rfl dL_law_1004 (by decide) rfl (by decide) (hv2 (by omega)) ?_
    refine zj_dload7 (n := 1007) rfl dL_law_1005 ?_
    refine zj_dcmp (n := 1008) rfl dL_law_1007 ?_
    refine zj_if_eq (n := 1011) (tgt := 1033) rfl dL_law_1008 (by decide) (fun c1008 => ?_) (fun c1008 => ?_)
    · refine zj_goto (tgt := 3048) dL_law_1033 (by decide) ?_
      refine zj_keepG [true, true, true, true, true, true, false, false, false, false] ?_
      exact h M2 S ⟨hc2, hI2, hP⟩
    · refine zj_aload4 (n := 1013) rfl dL_law_1011 ?_
      refine zj_iconstN_0 (n := 1014) rfl dL_law_1013 ?_
      refine zj_daloadW (x := (a_share S.1.1 (xs (i + 1))).2) (n := 1015) rfl dL_law_1014 (by decide) rfl (by decide) (hv2 (by omega)) ?_
      refine zj_aload4 (n := 1017) rfl dL_law_1015 ?_
      refine zj_iconstN_0 (n := 1018) rfl dL_law_1017 ?_
      refine zj_daloadW (x := (a_share S.1.1 (xs (i + 1))).2) (n := 1019) rfl dL_law_1018 (by decide) rfl (by decide) (hv2 (by omega)) ?_
      refine zj_dcmp (n := 1020) rfl dL_law_1019 ?_
      refine zj_if_eq (n := 1023) (tgt := 1031) rfl dL_law_1020 (by decide) (fun c1020 => absurd c1020 c1008) (fun c1020 => ?_)
      refine zj_dload7 (n := 1025) rfl dL_law_1023 ?_
      refine zj_dload7 (n := 1027) rfl dL_law_1025 ?_
      refine zj_dcmp (n := 1028) rfl dL_law_1027 ?_
      refine zj_if_ne (n := 1031) (tgt := 1033) rfl dL_law_1028 (by decide) (fun c1028 => ?_) (fun c1028 => absurd c1028 c1008)
      refine zj_goto (tgt := 3048) dL_law_1033 (by decide) ?_
      refine zj_keepG [true, true, true, true, true, true, false, false, false, false] ?_
      exact h M2 S ⟨hc2, hI2, hP⟩
theorem z_case14 {L i A B : Nat} {xs : Nat → Int32} {S : zLS} {Q : Option Value → zM → Prop} {X : String → zM → Prop} {M : zM} (hL : L ≤ 3072) (hi : i + 6 ≤ L) (hI : zI M S) (h : ∀ M' S', zI M' S' → zJG (zGL L xs) yL_law cL_law 10 (some .boolean) room_1 Q X A B 3048 [some (.ref 800), some (.ref 99), some (.ref 118), some (.ref 131), some (.ref 132), some (.int (nI i)), none, none, none, none] [] M') : zJG (zGL L xs) yL_law cL_law 10 (some .boolean) room_1 Q X (A + 2) (B + 12) 1036 [some (.ref 800), some (.ref 99), some (.ref 118), some (.ref 131), some (.ref 132), some (.int (nI i)), none, none, none, none] [] M := by
  have hP := hI.2.2
  have hk9 : (a_group S.1.1 (xs (i + 1)) (xs (i + 2))).1 ≤ 3 := ck_a_group
  refine zj_aload1 (n := 1037) rfl dL_law_1036 ?_
  refine zj_aload0 (n := 1038) rfl dL_law_1037 ?_
  refine zj_iload5 (n := 1040) rfl dL_law_1038 ?_
  refine zj_iconstN_1 (n := 1041) rfl dL_law_1040 ?_
  refine zj_iaddN (n := 1042) rfl dL_law_1041 ?_
  refine zj_sldN hL (n := 1043) rfl dL_law_1042 (by omega) ?_
  refine zj_aload0 (n := 1044) rfl dL_law_1043 ?_
  refine zj_iload5 (n := 1046) rfl dL_law_1044 ?_
  refine zj_iconstN_2 (n := 1047) rfl dL_law_1046 ?_
  refine zj_iaddN (n := 1048) rfl dL_law_1047 ?_
  refine zj_sldN hL (n := 1049) rfl dL_law_1048 (by omega) ?_
  refine zj_aload3 (n := 1050) rfl dL_law_1049 ?_
  refine zj_callLW4 (n := 1053) (a' := A + 0) (b' := B + 0) rfl dL_law_1050 zw_L_205 (by decide) (Nat.le_of_ble_eq_true rfl) (by show 2 + (A + 0) ≤ A + 2; omega) (by show 12 + (B + 0) ≤ B + 12; omega) (Nat.le_of_ble_eq_true rfl) (jL_group hI.1 hP (fun M1 hF1 hI1 hv1 => ?_))
  have hm := hI.2.1.fr hF1
  refine zj_istore6 (n := 1055) rfl dL_law_1053 rfl (Nat.le_of_ble_eq_true rfl) ?_
  refine zj_aload2 (n := 1056) rfl dL_law_1055 ?_
  refine zj_aload0 (n := 1057) rfl dL_law_1056 ?_
  refine zj_iload5 (n := 1059) rfl dL_law_1057 ?_
  refine zj_iconstN_1 (n := 1060) rfl dL_law_1059 ?_
  refine zj_iaddN (n := 1061) rfl dL_law_1060 ?_
  refine zj_sldN hL (n := 1062) rfl dL_law_1061 (by omega) ?_
  refine zj_aload0 (n := 1063) rfl dL_law_1062 ?_
  refine zj_iload5 (n := 1065) rfl dL_law_1063 ?_
  refine zj_iconstN_2 (n := 1066) rfl dL_law_1065 ?_
  refine zj_iaddN (n := 1067) rfl dL_law_1066 ?_
  refine zj_sldN hL (n := 1068) rfl dL_law_1067 (by omega) ?_
  refine zj_callLV2 (n := 1071) (R' := rX10_group) (a' := A + 0) (b' := B + 0) rfl dL_law_1068 zm_L_207 (by decide) (by decide) rfl (Nat.le_of_ble_eq_true rfl) (by show 0 + (A + 0) ≤ A + 0; omega) (by show 0 + (B + 0) ≤ B + 0; omega) (Nat.le_of_ble_eq_true rfl) (jX10_group hm.1 hP.1 hm.2.1 (fun M2 hq2 ht2 => ?_))
  have hI2 := hm.q hq2
  have hf2 := hq2.fM
  have hc2 := hI1.frM hf2
  have hv2 := fun q => (congrFun hf2.2.1 0).trans (hv1 q)
  refine zj_istore7 (n := 1073) rfl dL_law_1071 rfl (Nat.le_of_ble_eq_true rfl) ?_
  refine zj_aload2 (n := 1074) rfl dL_law_1073 ?_
  refine zj_callLV0 (n := 1077) (a' := A + 0) (b' := B + 0) rfl dL_law_1074 zm_L_156 (by decide) (by decide) rfl (Nat.le_of_ble_eq_true rfl) (by show 0 + (A + 0) ≤ A + 0; omega) (by show 0 + (B + 0) ≤ B + 0; omega) (Nat.le_of_ble_eq_true rfl) (jX10_thrownN ht2 ?_)
  refine zj_iload6 (n := 1079) rfl dL_law_1077 ?_
  refine zj_icmp_eq (n := 1082) (tgt := 1084) rfl dL_law_1079 (by decide) (fun _ => ?_) (fun c9 => absurd rfl c9)
  refine zj_iload6 (n := 1086) rfl dL_law_1084 ?_
  refine zj_ifN_ne (n := 1089) (tgt := 1101) rfl dL_law_1086 (by decide) (by omega) (fun c1086 => ?_) (fun c1086 => ?_)
  · refine zj_goto (tgt := 3048) dL_law_1101 (by decide) ?_
    refine zj_keepG [true, true, true, true, true, true, false, false, false, false] ?_
    exact h M2 S ⟨hc2, hI2, hP⟩
  · refine zj_aload3 (n := 1090) rfl dL_law_1089 ?_
    refine zj_iconstN_0 (n := 1091) rfl dL_law_1090 ?_
    refine zj_laloadW (x := (a_group S.1.1 (xs (i + 1)) (xs (i + 2))).2.toInt64) (n := 1092) rfl dL_law_1091 (by decide) rfl (by decide) (hv2 (by omega)) ?_
    refine zj_iload7 (n := 1094) rfl dL_law_1092 ?_
    refine zj_i2l (n := 1095) rfl dL_law_1094 ?_
    refine zj_lcmpE (n := 1096) rfl dL_law_1095 ?_
    refine zj_ifN_eq (n := 1099) (tgt := 1101) rfl dL_law_1096 (by decide) (by omega) (fun _ => ?_) (fun h => absurd h (by decide))
    refine zj_goto (tgt := 3048) dL_law_1101 (by decide) ?_
    refine zj_keepG [true, true, true, true, true, true, false, false, false, false] ?_
    exact h M2 S ⟨hc2, hI2, hP⟩
theorem z_case15 {L i A B : Nat} {xs : Nat → Int32} {S : zLS} {Q : Option Value → zM → Prop} {X : String → zM → Prop} {M : zM} (hL : L ≤ 3072) (hi : i + 6 ≤ L) (hI : zI M S) (h : ∀ M' S', zI M' S' → zJG (zGL L xs) yL_law cL_law 10 (some .boolean) room_1 Q X A B 3048 [some (.ref 800), some (.ref 99), some (.ref 118), some (.ref 131), some (.ref 132), some (.int (nI i)), none, none, none, none] [] M') : zJG (zGL L xs) yL_law cL_law 10 (some .boolean) room_1 Q X (A + 2) (B + 12) 1104 [some (.ref 800), some (.ref 99), some (.ref 118), some (.ref 131), some (.ref 132), some (.int (nI i)), none, none, none, none] [] M := by
  have hP := hI.2.2
  have hk9 : (a_nodeOf S.1.1 (xs (i + 1)) (xs (i + 2))).1 ≤ 3 := ck_a_nodeOf
  refine zj_aload1 (n := 1105) rfl dL_law_1104 ?_
  refine zj_aload0 (n := 1106) rfl dL_law_1105 ?_
  refine zj_iload5 (n := 1108) rfl dL_law_1106 ?_
  refine zj_iconstN_1 (n := 1109) rfl dL_law_1108 ?_
  refine zj_iaddN (n := 1110) rfl dL_law_1109 ?_
  refine zj_sldN hL (n := 1111) rfl dL_law_1110 (by omega) ?_
  refine zj_aload0 (n := 1112) rfl dL_law_1111 ?_
  refine zj_iload5 (n := 1114) rfl dL_law_1112 ?_
  refine zj_iconstN_2 (n := 1115) rfl dL_law_1114 ?_
  refine zj_iaddN (n := 1116) rfl dL_law_1115 ?_
  refine zj_sldN hL (n := 1117) rfl dL_law_1116 (by omega) ?_
  refine zj_aload3 (n := 1118) rfl dL_law_1117 ?_
  refine zj_callLW4 (n := 1121) (a' := A + 0) (b' := B + 0) rfl dL_law_1118 zw_L_208 (by decide) (Nat.le_of_ble_eq_true rfl) (by show 2 + (A + 0) ≤ A + 2; omega) (by show 12 + (B + 0) ≤ B + 12; omega) (Nat.le_of_ble_eq_true rfl) (jL_nodeOf hI.1 hP (fun M1 hF1 hI1 hv1 => ?_))
  have hm := hI.2.1.fr hF1
  refine zj_istore6 (n := 1123) rfl dL_law_1121 rfl (Nat.le_of_ble_eq_true rfl) ?_
  refine zj_aload2 (n := 1124) rfl dL_law_1123 ?_
  refine zj_aload0 (n := 1125) rfl dL_law_1124 ?_
  refine zj_iload5 (n := 1127) rfl dL_law_1125 ?_
  refine zj_iconstN_1 (n := 1128) rfl dL_law_1127 ?_
  refine zj_iaddN (n := 1129) rfl dL_law_1128 ?_
  refine zj_sldN hL (n := 1130) rfl dL_law_1129 (by omega) ?_
  refine zj_aload0 (n := 1131) rfl dL_law_1130 ?_
  refine zj_iload5 (n := 1133) rfl dL_law_1131 ?_
  refine zj_iconstN_2 (n := 1134) rfl dL_law_1133 ?_
  refine zj_iaddN (n := 1135) rfl dL_law_1134 ?_
  refine zj_sldN hL (n := 1136) rfl dL_law_1135 (by omega) ?_
  refine zj_callLV2 (n := 1139) (R' := rX10_nodeOf) (a' := A + 0) (b' := B + 0) rfl dL_law_1136 zm_L_210 (by decide) (by decide) rfl (Nat.le_of_ble_eq_true rfl) (by show 0 + (A + 0) ≤ A + 0; omega) (by show 0 + (B + 0) ≤ B + 0; omega) (Nat.le_of_ble_eq_true rfl) (jX10_nodeOf hm.1 hP.1 hm.2.1 (fun M2 hq2 ht2 => ?_))
  have hI2 := hm.q hq2
  have hf2 := hq2.fM
  have hc2 := hI1.frM hf2
  have hv2 := fun q => (congrFun hf2.2.1 0).trans (hv1 q)
  refine zj_istore7 (n := 1141) rfl dL_law_1139 rfl (Nat.le_of_ble_eq_true rfl) ?_
  refine zj_aload2 (n := 1142) rfl dL_law_1141 ?_
  refine zj_callLV0 (n := 1145) (a' := A + 0) (b' := B + 0) rfl dL_law_1142 zm_L_156 (by decide) (by decide) rfl (Nat.le_of_ble_eq_true rfl) (by show 0 + (A + 0) ≤ A + 0; omega) (by show 0 + (B + 0) ≤ B + 0; omega) (Nat.le_of_ble_eq_true rfl) (jX10_thrownN ht2 ?_)
  refine zj_iload6 (n := 1147) rfl dL_law_1145 ?_
  refine zj_icmp_eq (n := 1150) (tgt := 1152) rfl dL_law_1147 (by decide) (fun _ => ?_) (fun c9 => absurd rfl c9)
  refine zj_iload6 (n := 1154) rfl dL_law_1152 ?_
  refine zj_ifN_ne (n := 1157) (tgt := 1169) rfl dL_law_1154 (by decide) (by omega) (fun c1154 => ?_) (fun c1154 => ?_)
  · refine zj_goto (tgt := 3048) dL_law_1169 (by decide) ?_
    refine zj_keepG [true, true, true, true, true, true, false, false, false, false] ?_
    exact h M2 S ⟨hc2, hI2, hP⟩
  · refine zj_aload3 (n := 1158) rfl dL_law_1157 ?_
    refine zj_iconstN_0 (n := 1159) rfl dL_law_1158 ?_
    refine zj_laloadW (x := (a_nodeOf S.1.1 (xs (i + 1)) (xs (i + 2))).2.toInt64) (n := 1160) rfl dL_law_1159 (by decide) rfl (by decide) (hv2 (by omega)) ?_
    refine zj_iload7 (n := 1162) rfl dL_law_1160 ?_
    refine zj_i2l (n := 1163) rfl dL_law_1162 ?_
    refine zj_lcmpE (n := 1164) rfl dL_law_1163 ?_
    refine zj_ifN_eq (n := 1167) (tgt := 1169) rfl dL_law_1164 (by decide) (by omega) (fun _ => ?_) (fun h => absurd h (by decide))
    refine zj_goto (tgt := 3048) dL_law_1169 (by decide) ?_
    refine zj_keepG [true, true, true, true, true, true, false, false, false, false] ?_
    exact h M2 S ⟨hc2, hI2, hP⟩
theorem z_case16 {L i A B : Nat} {xs : Nat → Int32} {S : zLS} {Q : Option Value → zM → Prop} {X : String → zM → Prop} {M : zM} (hL : L ≤ 3072) (hi : i + 6 ≤ L) (hI : zI M S) (h : ∀ M' S', zI M' S' → zJG (zGL L xs) yL_law cL_law 10 (some .boolean) room_1 Q X A B 3048 [some (.ref 800), some (.ref 99), some (.ref 118), some (.ref 131), some (.ref 132), some (.int (nI i)), none, none, none, none] [] M') : zJG (zGL L xs) yL_law cL_law 10 (some .boolean) room_1 Q X (A + 1) (B + 6) 1172 [some (.ref 800), some (.ref 99), some (.ref 118), some (.ref 131), some (.ref 132), some (.int (nI i)), none, none, none, none] [] M := by
  have hP := hI.2.2
  have hk9 : (a_missing S.1.1 (xs (i + 1))).1 ≤ 3 := ck_a_missing
  refine zj_aload1 (n := 1173) rfl dL_law_1172 ?_
  refine zj_aload0 (n := 1174) rfl dL_law_1173 ?_
  refine zj_iload5 (n := 1176) rfl dL_law_1174 ?_
  refine zj_iconstN_1 (n := 1177) rfl dL_law_1176 ?_
  refine zj_iaddN (n := 1178) rfl dL_law_1177 ?_
  refine zj_sldN hL (n := 1179) rfl dL_law_1178 (by omega) ?_
  refine zj_aload3 (n := 1180) rfl dL_law_1179 ?_
  refine zj_callLW3 (n := 1183) (a' := A + 0) (b' := B + 0) rfl dL_law_1180 zw_L_211 (by decide) (Nat.le_of_ble_eq_true rfl) (by show 1 + (A + 0) ≤ A + 1; omega) (by show 6 + (B + 0) ≤ B + 6; omega) (Nat.le_of_ble_eq_true rfl) (jL_missing hI.1 hP (fun M1 hF1 hI1 hv1 => ?_))
  have hm := hI.2.1.fr hF1
  refine zj_istore6 (n := 1185) rfl dL_law_1183 rfl (Nat.le_of_ble_eq_true rfl) ?_
  refine zj_aload2 (n := 1186) rfl dL_law_1185 ?_
  refine zj_aload0 (n := 1187) rfl dL_law_1186 ?_
  refine zj_iload5 (n := 1189) rfl dL_law_1187 ?_
  refine zj_iconstN_1 (n := 1190) rfl dL_law_1189 ?_
  refine zj_iaddN (n := 1191) rfl dL_law_1190 ?_
  refine zj_sldN hL (n := 1192) rfl dL_law_1191 (by omega) ?_
  refine zj_callLV1 (n := 1195) (R' := rX10_missing) (a' := A + 0) (b' := B + 0) rfl dL_law_1192 zm_L_213 (by decide) (by decide) rfl (Nat.le_of_ble_eq_true rfl) (by show 0 + (A + 0) ≤ A + 0; omega) (by show 0 + (B + 0) ≤ B + 0; omega) (Nat.le_of_ble_eq_true rfl) (jX10_missing hm.1 hP.1 hm.2.1 (fun M2 hq2 ht2 => ?_))
  have hI2 := hm.q hq2
  have hf2 := hq2.fM
  have hc2 := hI1.frM hf2
  have hv2 := fun q => (congrFun hf2.2.1 0).trans (hv1 q)
  refine zj_istore7 (n := 1197) rfl dL_law_1195 rfl (Nat.le_of_ble_eq_true rfl) ?_
  refine zj_aload2 (n := 1198) rfl dL_law_1197 ?_
  refine zj_callLV0 (n := 1201) (a' := A + 0) (b' := B + 0) rfl dL_law_1198 zm_L_156 (by decide) (by decide) rfl (Nat.le_of_ble_eq_true rfl) (by show 0 + (A + 0) ≤ A + 0; omega) (by show 0 + (B + 0) ≤ B + 0; omega) (Nat.le_of_ble_eq_true rfl) (jX10_thrownN ht2 ?_)
  refine zj_iload6 (n := 1203) rfl dL_law_1201 ?_
  refine zj_icmp_eq (n := 1206) (tgt := 1208) rfl dL_law_1203 (by decide) (fun _ => ?_) (fun c9 => absurd rfl c9)
  refine zj_iload6 (n := 1210) rfl dL_law_1208 ?_
  refine zj_ifN_ne (n := 1213) (tgt := 1225) rfl dL_law_1210 (by decide) (by omega) (fun c1210 => ?_) (fun c1210 => ?_)
  · refine zj_goto (tgt := 3048) dL_law_1225 (by decide) ?_
    refine zj_keepG [true, true, true, true, true, true, false, false, false, false] ?_
    exact h M2 S ⟨hc2, hI2, hP⟩
  · refine zj_aload3 (n := 1214) rfl dL_law_1213 ?_
    refine zj_iconstN_0 (n := 1215) rfl dL_law_1214 ?_
    refine zj_laloadW (x := (a_missing S.1.1 (xs (i + 1))).2.toInt64) (n := 1216) rfl dL_law_1215 (by decide) rfl (by decide) (hv2 (by omega)) ?_
    refine zj_iload7 (n := 1218) rfl dL_law_1216 ?_
    refine zj_i2l (n := 1219) rfl dL_law_1218 ?_
    refine zj_lcmpE (n := 1220) rfl dL_law_1219 ?_
    refine zj_ifN_eq (n := 1223) (tgt := 1225) rfl dL_law_1220 (by decide) (by omega) (fun _ => ?_) (fun h => absurd h (by decide))
    refine zj_goto (tgt := 3048) dL_law_1225 (by decide) ?_
    refine zj_keepG [true, true, true, true, true, true, false, false, false, false] ?_
    exact h M2 S ⟨hc2, hI2, hP⟩
theorem z_case17 {L i A B : Nat} {xs : Nat → Int32} {S : zLS} {Q : Option Value → zM → Prop} {X : String → zM → Prop} {M : zM} (hL : L ≤ 3072) (hi : i + 6 ≤ L) (hI : zI M S) (h : ∀ M' S', zI M' S' → zJG (zGL L xs) yL_law cL_law 10 (some .boolean) room_1 Q X A B 3048 [some (.ref 800), some (.ref 99), some (.ref 118), some (.ref 131), some (.ref 132), some (.int (nI i)), none, none, none, none] [] M') : zJG (zGL L xs) yL_law cL_law 10 (some .boolean) room_1 Q X (A + 1) (B + 6) 1228 [some (.ref 800), some (.ref 99), some (.ref 118), some (.ref 131), some (.ref 132), some (.int (nI i)), none, none, none, none] [] M := by
  have hP := hI.2.2
  have hk9 : (a_zonesOf S.1.1 (xs (i + 1))).1 ≤ 3 := ck_a_zonesOf
  refine zj_aload1 (n := 1229) rfl dL_law_1228 ?_
  refine zj_aload0 (n := 1230) rfl dL_law_1229 ?_
  refine zj_iload5 (n := 1232) rfl dL_law_1230 ?_
  refine zj_iconstN_1 (n := 1233) rfl dL_law_1232 ?_
  refine zj_iaddN (n := 1234) rfl dL_law_1233 ?_
  refine zj_sldN hL (n := 1235) rfl dL_law_1234 (by omega) ?_
  refine zj_aload3 (n := 1236) rfl dL_law_1235 ?_
  refine zj_callLW3 (n := 1239) (a' := A + 0) (b' := B + 0) rfl dL_law_1236 zw_L_214 (by decide) (Nat.le_of_ble_eq_true rfl) (by show 1 + (A + 0) ≤ A + 1; omega) (by show 6 + (B + 0) ≤ B + 6; omega) (Nat.le_of_ble_eq_true rfl) (jL_zonesOf hI.1 hP (fun M1 hF1 hI1 hv1 => ?_))
  have hm := hI.2.1.fr hF1
  refine zj_istore6 (n := 1241) rfl dL_law_1239 rfl (Nat.le_of_ble_eq_true rfl) ?_
  refine zj_aload2 (n := 1242) rfl dL_law_1241 ?_
  refine zj_aload0 (n := 1243) rfl dL_law_1242 ?_
  refine zj_iload5 (n := 1245) rfl dL_law_1243 ?_
  refine zj_iconstN_1 (n := 1246) rfl dL_law_1245 ?_
  refine zj_iaddN (n := 1247) rfl dL_law_1246 ?_
  refine zj_sldN hL (n := 1248) rfl dL_law_1247 (by omega) ?_
  refine zj_callLV1 (n := 1251) (R' := rX10_zonesOf) (a' := A + 0) (b' := B + 0) rfl dL_law_1248 zm_L_216 (by decide) (by decide) rfl (Nat.le_of_ble_eq_true rfl) (by show 0 + (A + 0) ≤ A + 0; omega) (by show 0 + (B + 0) ≤ B + 0; omega) (Nat.le_of_ble_eq_true rfl) (jX10_zonesOf hm.1 hP.1 hm.2.1 (fun M2 hq2 ht2 => ?_))
  have hI2 := hm.q hq2
  have hf2 := hq2.fM
  have hc2 := hI1.frM hf2
  have hv2 := fun q => (congrFun hf2.2.1 0).trans (hv1 q)
  refine zj_istore7 (n := 1253) rfl dL_law_1251 rfl (Nat.le_of_ble_eq_true rfl) ?_
  refine zj_aload2 (n := 1254) rfl dL_law_1253 ?_
  refine zj_callLV0 (n := 1257) (a' := A + 0) (b' := B + 0) rfl dL_law_1254 zm_L_156 (by decide) (by decide) rfl (Nat.le_of_ble_eq_true rfl) (by show 0 + (A + 0) ≤ A + 0; omega) (by show 0 + (B + 0) ≤ B + 0; omega) (Nat.le_of_ble_eq_true rfl) (jX10_thrownN ht2 ?_)
  refine zj_iload6 (n := 1259) rfl dL_law_1257 ?_
  refine zj_icmp_eq (n := 1262) (tgt := 1264) rfl dL_law_1259 (by decide) (fun _ => ?_) (fun c9 => absurd rfl c9)
  refine zj_iload6 (n := 1266) rfl dL_law_1264 ?_
  refine zj_ifN_ne (n := 1269) (tgt := 1281) rfl dL_law_1266 (by decide) (by omega) (fun c1266 => ?_) (fun c1266 => ?_)
  · refine zj_goto (tgt := 3048) dL_law_1281 (by decide) ?_
    refine zj_keepG [true, true, true, true, true, true, false, false, false, false] ?_
    exact h M2 S ⟨hc2, hI2, hP⟩
  · refine zj_aload3 (n := 1270) rfl dL_law_1269 ?_
    refine zj_iconstN_0 (n := 1271) rfl dL_law_1270 ?_
    refine zj_laloadW (x := (a_zonesOf S.1.1 (xs (i + 1))).2.toInt64) (n := 1272) rfl dL_law_1271 (by decide) rfl (by decide) (hv2 (by omega)) ?_
    refine zj_iload7 (n := 1274) rfl dL_law_1272 ?_
    refine zj_i2l (n := 1275) rfl dL_law_1274 ?_
    refine zj_lcmpE (n := 1276) rfl dL_law_1275 ?_
    refine zj_ifN_eq (n := 1279) (tgt := 1281) rfl dL_law_1276 (by decide) (by omega) (fun _ => ?_) (fun h => absurd h (by decide))
    refine zj_goto (tgt := 3048) dL_law_1281 (by decide) ?_
    refine zj_keepG [true, true, true, true, true, true, false, false, false, false] ?_
    exact h M2 S ⟨hc2, hI2, hP⟩
theorem z_case18 {L i A B : Nat} {xs : Nat → Int32} {S : zLS} {Q : Option Value → zM → Prop} {X : String → zM → Prop} {M : zM} (hL : L ≤ 3072) (hi : i + 6 ≤ L) (hI : zI M S) (h : ∀ M' S', zI M' S' → zJG (zGL L xs) yL_law cL_law 10 (some .boolean) room_1 Q X A B 3048 [some (.ref 800), some (.ref 99), some (.ref 118), some (.ref 131), some (.ref 132), some (.int (nI i)), none, none, none, none] [] M') : zJG (zGL L xs) yL_law cL_law 10 (some .boolean) room_1 Q X (A + 0) (B + 0) 1284 [some (.ref 800), some (.ref 99), some (.ref 118), some (.ref 131), some (.ref 132), some (.int (nI i)), none, none, none, none] [] M := by
  have hP := hI.2.2
  refine zj_aload1 (n := 1285) rfl dL_law_1284 ?_
  refine zj_callLV0 (n := 1288) (a' := A + 0) (b' := B + 0) rfl dL_law_1285 zm_L_217 (by decide) (by decide) rfl (Nat.le_of_ble_eq_true rfl) (by show 0 + (A + 0) ≤ A + 0; omega) (by show 0 + (B + 0) ≤ B + 0; omega) (Nat.le_of_ble_eq_true rfl) (jX9_damaged hI.1.1 hP.1 (fun _ M1 hq1 => ?_))
  have hF1 := hq1.fC
  have hI1 := hI.1.q hq1
  have hm := hI.2.1.fr hF1
  refine zj_aload2 (n := 1289) rfl dL_law_1288 ?_
  refine zj_callLV0 (n := 1292) (R' := rX10_damaged) (a' := A + 0) (b' := B + 0) rfl dL_law_1289 zm_L_220 (by decide) (by decide) rfl (Nat.le_of_ble_eq_true rfl) (by show 0 + (A + 0) ≤ A + 0; omega) (by show 0 + (B + 0) ≤ B + 0; omega) (Nat.le_of_ble_eq_true rfl) (jX10_damaged hm.1 hP.1 hm.2.1 (fun M2 hq2 ht2 => ?_))
  have hI2 := hm.q hq2
  have hf2 := hq2.fM
  have hc2 := hI1.frM hf2
  refine zj_icmp_eq (n := 1295) (tgt := 3048) rfl dL_law_1292 (by decide) (fun _ => ?_) (fun c9 => absurd rfl c9)
  refine zj_keepG [true, true, true, true, true, true, false, false, false, false] ?_
  exact h M2 S ⟨hc2, hI2, hP⟩
theorem z_case19 {L i A B : Nat} {xs : Nat → Int32} {S : zLS} {Q : Option Value → zM → Prop} {X : String → zM → Prop} {M : zM} (hL : L ≤ 3072) (hi : i + 6 ≤ L) (hI : zI M S) (h : ∀ M' S', zI M' S' → zJG (zGL L xs) yL_law cL_law 10 (some .boolean) room_1 Q X A B 3048 [some (.ref 800), some (.ref 99), some (.ref 118), some (.ref 131), some (.ref 132), some (.int (nI i)), none, none, none, none] [] M') : zJG (zGL L xs) yL_law cL_law 10 (some .boolean) room_1 Q X (A + 0) (B + 0) 1297 [some (.ref 800), some (.ref 99), some (.ref 118), some (.ref 131), some (.ref 132), some (.int (nI i)), none, none, none, none] [] M := by
  have hP := hI.2.2
  refine zj_aload1 (n := 1298) rfl dL_law_1297 ?_
  refine zj_callLV0 (n := 1301) (a' := A + 0) (b' := B + 0) rfl dL_law_1298 zm_L_221 (by decide) (by decide) rfl (Nat.le_of_ble_eq_true rfl) (by show 0 + (A + 0) ≤ A + 0; omega) (by show 0 + (B + 0) ≤ B + 0; omega) (Nat.le_of_ble_eq_true rfl) (jX9_lost hI.1.1 hP.1 (fun _ M1 hq1 => ?_))
  have hF1 := hq1.fC
  have hI1 := hI.1.q hq1
  have hm := hI.2.1.fr hF1
  refine zj_aload2 (n := 1302) rfl dL_law_1301 ?_
  refine zj_callLV0 (n := 1305) (R' := rX10_lost) (a' := A + 0) (b' := B + 0) rfl dL_law_1302 zm_L_224 (by decide) (by decide) rfl (Nat.le_of_ble_eq_true rfl) (by show 0 + (A + 0) ≤ A + 0; omega) (by show 0 + (B + 0) ≤ B + 0; omega) (Nat.le_of_ble_eq_true rfl) (jX10_lost hm.1 hP.1 hm.2.1 (fun M2 hq2 ht2 => ?_))
  have hI2 := hm.q hq2
  have hf2 := hq2.fM
  have hc2 := hI1.frM hf2
  refine zj_icmp_eq (n := 1308) (tgt := 3048) rfl dL_law_1305 (by decide) (fun _ => ?_) (fun c9 => absurd rfl c9)
  refine zj_keepG [true, true, true, true, true, true, false, false, false, false] ?_
  exact h M2 S ⟨hc2, hI2, hP⟩
theorem z_case20 {L i A B : Nat} {xs : Nat → Int32} {S : zLS} {Q : Option Value → zM → Prop} {X : String → zM → Prop} {M : zM} (hL : L ≤ 3072) (hi : i + 6 ≤ L) (hI : zI M S) (h : ∀ M' S', zI M' S' → zJG (zGL L xs) yL_law cL_law 10 (some .boolean) room_1 Q X A B 3048 [some (.ref 800), some (.ref 99), some (.ref 118), some (.ref 131), some (.ref 132), some (.int (nI i)), none, none, none, none] [] M') : zJG (zGL L xs) yL_law cL_law 10 (some .boolean) room_1 Q X (A + 1) (B + 6) 1310 [some (.ref 800), some (.ref 99), some (.ref 118), some (.ref 131), some (.ref 132), some (.int (nI i)), none, none, none, none] [] M := by
  have hP := hI.2.2
  have hk9 : (a_loss S.1.1 (xs (i + 1))).1 ≤ 3 := ck_a_loss
  refine zj_aload1 (n := 1311) rfl dL_law_1310 ?_
  refine zj_aload0 (n := 1312) rfl dL_law_1311 ?_
  refine zj_iload5 (n := 1314) rfl dL_law_1312 ?_
  refine zj_iconstN_1 (n := 1315) rfl dL_law_1314 ?_
  refine zj_iaddN (n := 1316) rfl dL_law_1315 ?_
  refine zj_sldN hL (n := 1317) rfl dL_law_1316 (by omega) ?_
  refine zj_aload3 (n := 1318) rfl dL_law_1317 ?_
  refine zj_callLW3 (n := 1321) (a' := A + 0) (b' := B + 0) rfl dL_law_1318 zw_L_225 (by decide) (Nat.le_of_ble_eq_true rfl) (by show 1 + (A + 0) ≤ A + 1; omega) (by show 6 + (B + 0) ≤ B + 6; omega) (Nat.le_of_ble_eq_true rfl) (jL_loss hI.1 hP (fun M1 hF1 hI1 hv1 => ?_))
  have hm := hI.2.1.fr hF1
  refine zj_istore6 (n := 1323) rfl dL_law_1321 rfl (Nat.le_of_ble_eq_true rfl) ?_
  refine zj_aload2 (n := 1324) rfl dL_law_1323 ?_
  refine zj_aload0 (n := 1325) rfl dL_law_1324 ?_
  refine zj_iload5 (n := 1327) rfl dL_law_1325 ?_
  refine zj_iconstN_1 (n := 1328) rfl dL_law_1327 ?_
  refine zj_iaddN (n := 1329) rfl dL_law_1328 ?_
  refine zj_sldN hL (n := 1330) rfl dL_law_1329 (by omega) ?_
  refine zj_callLV1 (n := 1333) (R' := rX10_loss) (a' := A + 0) (b' := B + 0) rfl dL_law_1330 zm_L_227 (by decide) (by decide) rfl (Nat.le_of_ble_eq_true rfl) (by show 0 + (A + 0) ≤ A + 0; omega) (by show 0 + (B + 0) ≤ B + 0; omega) (Nat.le_of_ble_eq_true rfl) (jX10_loss hm.1 hP.1 hm.2.1 (fun M2 hq2 ht2 => ?_))
  have hI2 := hm.q hq2
  have hf2 := hq2.fM
  have hc2 := hI1.frM hf2
  have hv2 := fun q => (congrFun hf2.2.1 0).trans (hv1 q)
  refine zj_istore7 (n := 1335) rfl dL_law_1333 rfl (Nat.le_of_ble_eq_true rfl) ?_
  refine zj_aload2 (n := 1336) rfl dL_law_1335 ?_
  refine zj_callLV0 (n := 1339) (a' := A + 0) (b' := B + 0) rfl dL_law_1336 zm_L_156 (by decide) (by decide) rfl (Nat.le_of_ble_eq_true rfl) (by show 0 + (A + 0) ≤ A + 0; omega) (by show 0 + (B + 0) ≤ B + 0; omega) (Nat.le_of_ble_eq_true rfl) (jX10_thrownN ht2 ?_)
  refine zj_iload6 (n := 1341) rfl dL_law_1339 ?_
  refine zj_icmp_eq (n := 1344) (tgt := 1346) rfl dL_law_1341 (by decide) (fun _ => ?_) (fun c9 => absurd rfl c9)
  refine zj_iload6 (n := 1348) rfl dL_law_1346 ?_
  refine zj_ifN_ne (n := 1351) (tgt := 1363) rfl dL_law_1348 (by decide) (by omega) (fun c1348 => ?_) (fun c1348 => ?_)
  · refine zj_goto (tgt := 3048) dL_law_1363 (by decide) ?_
    refine zj_keepG [true, true, true, true, true, true, false, false, false, false] ?_
    exact h M2 S ⟨hc2, hI2, hP⟩
  · refine zj_aload3 (n := 1352) rfl dL_law_1351 ?_
    refine zj_iconstN_0 (n := 1353) rfl dL_law_1352 ?_
    refine zj_laloadW (x := (a_loss S.1.1 (xs (i + 1))).2.toInt64) (n := 1354) rfl dL_law_1353 (by decide) rfl (by decide) (hv2 (by omega)) ?_
    refine zj_iload7 (n := 1356) rfl dL_law_1354 ?_
    refine zj_i2l (n := 1357) rfl dL_law_1356 ?_
    refine zj_lcmpE (n := 1358) rfl dL_law_1357 ?_
    refine zj_ifN_eq (n := 1361) (tgt := 1363) rfl dL_law_1358 (by decide) (by omega) (fun _ => ?_) (fun h => absurd h (by decide))
    refine zj_goto (tgt := 3048) dL_law_1363 (by decide) ?_
    refine zj_keepG [true, true, true, true, true, true, false, false, false, false] ?_
    exact h M2 S ⟨hc2, hI2, hP⟩
theorem z_case21 {L i A B : Nat} {xs : Nat → Int32} {S : zLS} {Q : Option Value → zM → Prop} {X : String → zM → Prop} {M : zM} (hL : L ≤ 3072) (hi : i + 6 ≤ L) (hI : zI M S) (h : ∀ M' S', zI M' S' → zJG (zGL L xs) yL_law cL_law 10 (some .boolean) room_1 Q X A B 3048 [some (.ref 800), some (.ref 99), some (.ref 118), some (.ref 131), some (.ref 132), some (.int (nI i)), none, none, none, none] [] M') : zJG (zGL L xs) yL_law cL_law 10 (some .boolean) room_1 Q X (A + 2) (B + 12) 1366 [some (.ref 800), some (.ref 99), some (.ref 118), some (.ref 131), some (.ref 132), some (.int (nI i)), none, none, none, none] [] M := by
  have hP := hI.2.2
  have hk9 : (a_lossWithout S.1.1 (xs (i + 1)) (xs (i + 2))).1 ≤ 3 := ck_a_lossWithout
  refine zj_aload1 (n := 1367) rfl dL_law_1366 ?_
  refine zj_aload0 (n := 1368) rfl dL_law_1367 ?_
  refine zj_iload5 (n := 1370) rfl dL_law_1368 ?_
  refine zj_iconstN_1 (n := 1371) rfl dL_law_1370 ?_
  refine zj_iaddN (n := 1372) rfl dL_law_1371 ?_
  refine zj_sldN hL (n := 1373) rfl dL_law_1372 (by omega) ?_
  refine zj_aload0 (n := 1374) rfl dL_law_1373 ?_
  refine zj_iload5 (n := 1376) rfl dL_law_1374 ?_
  refine zj_iconstN_2 (n := 1377) rfl dL_law_1376 ?_
  refine zj_iaddN (n := 1378) rfl dL_law_1377 ?_
  refine zj_sldN hL (n := 1379) rfl dL_law_1378 (by omega) ?_
  refine zj_aload3 (n := 1380) rfl dL_law_1379 ?_
  refine zj_callLW4 (n := 1383) (a' := A + 0) (b' := B + 0) rfl dL_law_1380 zw_L_228 (by decide) (Nat.le_of_ble_eq_true rfl) (by show 2 + (A + 0) ≤ A + 2; omega) (by show 12 + (B + 0) ≤ B + 12; omega) (Nat.le_of_ble_eq_true rfl) (jL_lossWithout hI.1 hP (fun M1 hF1 hI1 hv1 => ?_))
  have hm := hI.2.1.fr hF1
  refine zj_istore6 (n := 1385) rfl dL_law_1383 rfl (Nat.le_of_ble_eq_true rfl) ?_
  refine zj_aload2 (n := 1386) rfl dL_law_1385 ?_
  refine zj_aload0 (n := 1387) rfl dL_law_1386 ?_
  refine zj_iload5 (n := 1389) rfl dL_law_1387 ?_
  refine zj_iconstN_1 (n := 1390) rfl dL_law_1389 ?_
  refine zj_iaddN (n := 1391) rfl dL_law_1390 ?_
  refine zj_sldN hL (n := 1392) rfl dL_law_1391 (by omega) ?_
  refine zj_aload0 (n := 1393) rfl dL_law_1392 ?_
  refine zj_iload5 (n := 1395) rfl dL_law_1393 ?_
  refine zj_iconstN_2 (n := 1396) rfl dL_law_1395 ?_
  refine zj_iaddN (n := 1397) rfl dL_law_1396 ?_
  refine zj_sldN hL (n := 1398) rfl dL_law_1397 (by omega) ?_
  refine zj_callLV2 (n := 1401) (R' := rX10_lossWithout) (a' := A + 0) (b' := B + 0) rfl dL_law_1398 zm_L_230 (by decide) (by decide) rfl (Nat.le_of_ble_eq_true rfl) (by show 0 + (A + 0) ≤ A + 0; omega) (by show 0 + (B + 0) ≤ B + 0; omega) (Nat.le_of_ble_eq_true rfl) (jX10_lossWithout hm.1 hP.1 hm.2.1 (fun M2 hq2 ht2 => ?_))
  have hI2 := hm.q hq2
  have hf2 := hq2.fM
  have hc2 := hI1.frM hf2
  have hv2 := fun q => (congrFun hf2.2.1 0).trans (hv1 q)
  refine zj_istore7 (n := 1403) rfl dL_law_1401 rfl (Nat.le_of_ble_eq_true rfl) ?_
  refine zj_aload2 (n := 1404) rfl dL_law_1403 ?_
  refine zj_callLV0 (n := 1407) (a' := A + 0) (b' := B + 0) rfl dL_law_1404 zm_L_156 (by decide) (by decide) rfl (Nat.le_of_ble_eq_true rfl) (by show 0 + (A + 0) ≤ A + 0; omega) (by show 0 + (B + 0) ≤ B + 0; omega) (Nat.le_of_ble_eq_true rfl) (jX10_thrownN ht2 ?_)
  refine zj_iload6 (n := 1409) rfl dL_law_1407 ?_
  refine zj_icmp_eq (n := 1412) (tgt := 1414) rfl dL_law_1409 (by decide) (fun _ => ?_) (fun c9 => absurd rfl c9)
  refine zj_iload6 (n := 1416) rfl dL_law_1414 ?_
  refine zj_ifN_ne (n := 1419) (tgt := 1431) rfl dL_law_1416 (by decide) (by omega) (fun c1416 => ?_) (fun c1416 => ?_)
  · refine zj_goto (tgt := 3048) dL_law_1431 (by decide) ?_
    refine zj_keepG [true, true, true, true, true, true, false, false, false, false] ?_
    exact h M2 S ⟨hc2, hI2, hP⟩
  · refine zj_aload3 (n := 1420) rfl dL_law_1419 ?_
    refine zj_iconstN_0 (n := 1421) rfl dL_law_1420 ?_
    refine zj_laloadW (x := (a_lossWithout S.1.1 (xs (i + 1)) (xs (i + 2))).2.toInt64) (n := 1422) rfl dL_law_1421 (by decide) rfl (by decide) (hv2 (by omega)) ?_
    refine zj_iload7 (n := 1424) rfl dL_law_1422 ?_
    refine zj_i2l (n := 1425) rfl dL_law_1424 ?_
    refine zj_lcmpE (n := 1426) rfl dL_law_1425 ?_
    refine zj_ifN_eq (n := 1429) (tgt := 1431) rfl dL_law_1426 (by decide) (by omega) (fun _ => ?_) (fun h => absurd h (by decide))
    refine zj_goto (tgt := 3048) dL_law_1431 (by decide) ?_
    refine zj_keepG [true, true, true, true, true, true, false, false, false, false] ?_
    exact h M2 S ⟨hc2, hI2, hP⟩
theorem z_case22 {L i A B : Nat} {xs : Nat → Int32} {S : zLS} {Q : Option Value → zM → Prop} {X : String → zM → Prop} {M : zM} (hL : L ≤ 3072) (hi : i + 6 ≤ L) (hI : zI M S) (h : ∀ M' S', zI M' S' → zJG (zGL L xs) yL_law cL_law 10 (some .boolean) room_1 Q X A B 3048 [some (.ref 800), some (.ref 99), some (.ref 118), some (.ref 131), some (.ref 132), some (.int (nI i)), none, none, none, none] [] M') : zJG (zGL L xs) yL_law cL_law 10 (some .boolean) room_1 Q X (A + 0) (B + 0) 1434 [some (.ref 800), some (.ref 99), some (.ref 118), some (.ref 131), some (.ref 132), some (.int (nI i)), none, none, none, none] [] M := by
  have hP := hI.2.2
  refine zj_aload1 (n := 1435) rfl dL_law_1434 ?_
  refine zj_callLV0 (n := 1438) (a' := A + 0) (b' := B + 0) rfl dL_law_1435 zm_L_231 (by decide) (by decide) rfl (Nat.le_of_ble_eq_true rfl) (by show 0 + (A + 0) ≤ A + 0; omega) (by show 0 + (B + 0) ≤ B + 0; omega) (Nat.le_of_ble_eq_true rfl) (jX9_expectedLoss hI.1.1 hP.1 (fun _ M1 hq1 => ?_))
  have hF1 := hq1.fC
  have hI1 := hI.1.q hq1
  have hm := hI.2.1.fr hF1
  refine zj_dstore6 (n := 1440) rfl dL_law_1438 rfl (Nat.le_of_ble_eq_true rfl) ?_
  refine zj_aload2 (n := 1441) rfl dL_law_1440 ?_
  refine zj_callLV0 (n := 1444) (R' := rX10_expectedLoss) (a' := A + 0) (b' := B + 0) rfl dL_law_1441 zm_L_235 (by decide) (by decide) rfl (Nat.le_of_ble_eq_true rfl) (by show 0 + (A + 0) ≤ A + 0; omega) (by show 0 + (B + 0) ≤ B + 0; omega) (Nat.le_of_ble_eq_true rfl) (jX10_expectedLoss hm.1 hP.1 hm.2.1 (fun M2 hq2 ht2 => ?_))
  have hI2 := hm.q hq2
  have hf2 := hq2.fM
  have hc2 := hI1.frM hf2
  refine zj_dstore8 (n := 1446) rfl dL_law_1444 rfl (Nat.le_of_ble_eq_true rfl) ?_
  refine zj_dload6 (n := 1448) rfl dL_law_1446 ?_
  refine zj_dload8 (n := 1450) rfl dL_law_1448 ?_
  refine zj_dcmp (n := 1451) rfl dL_law_1450 ?_
  refine zj_if_eq (n := 1454) (tgt := 1472) rfl dL_law_1451 (by decide) (fun c1451 => ?_) (fun c1451 => ?_)
  · refine zj_goto (tgt := 3048) dL_law_1472 (by decide) ?_
    refine zj_keepG [true, true, true, true, true, true, false, false, false, false] ?_
    exact h M2 S ⟨hc2, hI2, hP⟩
  · refine zj_dload6 (n := 1456) rfl dL_law_1454 ?_
    refine zj_dload6 (n := 1458) rfl dL_law_1456 ?_
    refine zj_dcmp (n := 1459) rfl dL_law_1458 ?_
    refine zj_if_eq (n := 1462) (tgt := 1470) rfl dL_law_1459 (by decide) (fun c1459 => absurd c1459 c1451) (fun c1459 => ?_)
    refine zj_dload8 (n := 1464) rfl dL_law_1462 ?_
    refine zj_dload8 (n := 1466) rfl dL_law_1464 ?_
    refine zj_dcmp (n := 1467) rfl dL_law_1466 ?_
    refine zj_if_ne (n := 1470) (tgt := 1472) rfl dL_law_1467 (by decide) (fun c1467 => ?_) (fun c1467 => absurd c1467 c1451)
    refine zj_goto (tgt := 3048) dL_law_1472 (by decide) ?_
    refine zj_keepG [true, true, true, true, true, true, false, false, false, false] ?_
    exact h M2 S ⟨hc2, hI2, hP⟩
theorem z_case23 {L i A B : Nat} {xs : Nat → Int32} {S : zLS} {Q : Option Value → zM → Prop} {X : String → zM → Prop} {M : zM} (hL : L ≤ 3072) (hi : i + 6 ≤ L) (hI : zI M S) (h : ∀ M' S', zI M' S' → zJG (zGL L xs) yL_law cL_law 10 (some .boolean) room_1 Q X A B 3048 [some (.ref 800), some (.ref 99), some (.ref 118), some (.ref 131), some (.ref 132), some (.int (nI i)), none, none, none, none] [] M') : zJG (zGL L xs) yL_law cL_law 10 (some .boolean) room_1 Q X (A + 0) (B + 0) 1475 [some (.ref 800), some (.ref 99), some (.ref 118), some (.ref 131), some (.ref 132), some (.int (nI i)), none, none, none, none] [] M := by
  have hP := hI.2.2
  refine zj_aload1 (n := 1476) rfl dL_law_1475 ?_
  refine zj_callLV0 (n := 1479) (a' := A + 0) (b' := B + 0) rfl dL_law_1476 zm_L_236 (by decide) (by decide) rfl (Nat.le_of_ble_eq_true rfl) (by show 0 + (A + 0) ≤ A + 0; omega) (by show 0 + (B + 0) ≤ B + 0; omega) (Nat.le_of_ble_eq_true rfl) (jX9_worstNode hI.1.1 hP.1 (fun _ M1 hq1 => ?_))
  have hF1 := hq1.fC
  have hI1 := hI.1.q hq1
  have hm := hI.2.1.fr hF1
  refine zj_aload2 (n := 1480) rfl dL_law_1479 ?_
  refine zj_callLV0 (n := 1483) (R' := rX10_worstNode) (a' := A + 0) (b' := B + 0) rfl dL_law_1480 zm_L_239 (by decide) (by decide) rfl (Nat.le_of_ble_eq_true rfl) (by show 0 + (A + 0) ≤ A + 0; omega) (by show 0 + (B + 0) ≤ B + 0; omega) (Nat.le_of_ble_eq_true rfl) (jX10_worstNode hm.1 hP.1 hm.2.1 (fun M2 hq2 ht2 => ?_))
  have hI2 := hm.q hq2
  have hf2 := hq2.fM
  have hc2 := hI1.frM hf2
  refine zj_icmp_eq (n := 1486) (tgt := 3048) rfl dL_law_1483 (by decide) (fun _ => ?_) (fun c9 => absurd rfl c9)
  refine zj_keepG [true, true, true, true, true, true, false, false, false, false] ?_
  exact h M2 S ⟨hc2, hI2, hP⟩
theorem z_case24 {L i A B : Nat} {xs : Nat → Int32} {S : zLS} {Q : Option Value → zM → Prop} {X : String → zM → Prop} {M : zM} (hL : L ≤ 3072) (hi : i + 6 ≤ L) (hI : zI M S) (h : ∀ M' S', zI M' S' → zJG (zGL L xs) yL_law cL_law 10 (some .boolean) room_1 Q X A B 3048 [some (.ref 800), some (.ref 99), some (.ref 118), some (.ref 131), some (.ref 132), some (.int (nI i)), none, none, none, none] [] M') : zJG (zGL L xs) yL_law cL_law 10 (some .boolean) room_1 Q X (A + 1) (B + 6) 1488 [some (.ref 800), some (.ref 99), some (.ref 118), some (.ref 131), some (.ref 132), some (.int (nI i)), none, none, none, none] [] M := by
  have hP := hI.2.2
  have hk9 : (a_offer S.1.1 (xs (i + 1))).1 ≤ 3 := ck_a_offer
  refine zj_aload1 (n := 1489) rfl dL_law_1488 ?_
  refine zj_aload0 (n := 1490) rfl dL_law_1489 ?_
  refine zj_iload5 (n := 1492) rfl dL_law_1490 ?_
  refine zj_iconstN_1 (n := 1493) rfl dL_law_1492 ?_
  refine zj_iaddN (n := 1494) rfl dL_law_1493 ?_
  refine zj_sldN hL (n := 1495) rfl dL_law_1494 (by omega) ?_
  refine zj_aload3 (n := 1496) rfl dL_law_1495 ?_
  refine zj_callLW3 (n := 1499) (a' := A + 0) (b' := B + 0) rfl dL_law_1496 zw_L_240 (by decide) (Nat.le_of_ble_eq_true rfl) (by show 1 + (A + 0) ≤ A + 1; omega) (by show 6 + (B + 0) ≤ B + 6; omega) (Nat.le_of_ble_eq_true rfl) (jL_offer hI.1 hP (fun M1 hF1 hI1 hv1 => ?_))
  have hm := hI.2.1.fr hF1
  refine zj_istore6 (n := 1501) rfl dL_law_1499 rfl (Nat.le_of_ble_eq_true rfl) ?_
  refine zj_aload2 (n := 1502) rfl dL_law_1501 ?_
  refine zj_aload0 (n := 1503) rfl dL_law_1502 ?_
  refine zj_iload5 (n := 1505) rfl dL_law_1503 ?_
  refine zj_iconstN_1 (n := 1506) rfl dL_law_1505 ?_
  refine zj_iaddN (n := 1507) rfl dL_law_1506 ?_
  refine zj_sldN hL (n := 1508) rfl dL_law_1507 (by omega) ?_
  refine zj_callLV1 (n := 1511) (R' := rX10_offer) (a' := A + 0) (b' := B + 0) rfl dL_law_1508 zm_L_242 (by decide) (by decide) rfl (Nat.le_of_ble_eq_true rfl) (by show 0 + (A + 0) ≤ A + 0; omega) (by show 0 + (B + 0) ≤ B + 0; omega) (Nat.le_of_ble_eq_true rfl) (jX10_offer hm.1 hP.1 hm.2.1 (fun M2 hq2 ht2 => ?_))
  have hI2 := hm.q hq2
  have hf2 := hq2.fM
  have hc2 := hI1.frM hf2
  have hv2 := fun q => (congrFun hf2.2.1 0).trans (hv1 q)
  refine zj_istore7 (n := 1513) rfl dL_law_1511 rfl (Nat.le_of_ble_eq_true rfl) ?_
  refine zj_aload2 (n := 1514) rfl dL_law_1513 ?_
  refine zj_callLV0 (n := 1517) (a' := A + 0) (b' := B + 0) rfl dL_law_1514 zm_L_156 (by decide) (by decide) rfl (Nat.le_of_ble_eq_true rfl) (by show 0 + (A + 0) ≤ A + 0; omega) (by show 0 + (B + 0) ≤ B + 0; omega) (Nat.le_of_ble_eq_true rfl) (jX10_thrownN ht2 ?_)
  refine zj_iload6 (n := 1519) rfl dL_law_1517 ?_
  refine zj_icmp_eq (n := 1522) (tgt := 1524) rfl dL_law_1519 (by decide) (fun _ => ?_) (fun c9 => absurd rfl c9)
  refine zj_iload6 (n := 1526) rfl dL_law_1524 ?_
  refine zj_ifN_ne (n := 1529) (tgt := 1541) rfl dL_law_1526 (by decide) (by omega) (fun c1526 => ?_) (fun c1526 => ?_)
  · refine zj_goto (tgt := 3048) dL_law_1541 (by decide) ?_
    refine zj_keepG [true, true, true, true, true, true, false, false, false, false] ?_
    exact h M2 S ⟨hc2, hI2, hP⟩
  · refine zj_aload3 (n := 1530) rfl dL_law_1529 ?_
    refine zj_iconstN_0 (n := 1531) rfl dL_law_1530 ?_
    refine zj_laloadW (x := (a_offer S.1.1 (xs (i + 1))).2.toInt64) (n := 1532) rfl dL_law_1531 (by decide) rfl (by decide) (hv2 (by omega)) ?_
    refine zj_iload7 (n := 1534) rfl dL_law_1532 ?_
    refine zj_i2l (n := 1535) rfl dL_law_1534 ?_
    refine zj_lcmpE (n := 1536) rfl dL_law_1535 ?_
    refine zj_ifN_eq (n := 1539) (tgt := 1541) rfl dL_law_1536 (by decide) (by omega) (fun _ => ?_) (fun h => absurd h (by decide))
    refine zj_goto (tgt := 3048) dL_law_1541 (by decide) ?_
    refine zj_keepG [true, true, true, true, true, true, false, false, false, false] ?_
    exact h M2 S ⟨hc2, hI2, hP⟩
theorem z_case25 {L i A B : Nat} {xs : Nat → Int32} {S : zLS} {Q : Option Value → zM → Prop} {X : String → zM → Prop} {M : zM} (hL : L ≤ 3072) (hi : i + 6 ≤ L) (hI : zI M S) (h : ∀ M' S', zI M' S' → zJG (zGL L xs) yL_law cL_law 10 (some .boolean) room_1 Q X A B 3048 [some (.ref 800), some (.ref 99), some (.ref 118), some (.ref 131), some (.ref 132), some (.int (nI i)), none, none, none, none] [] M') : zJG (zGL L xs) yL_law cL_law 10 (some .boolean) room_1 Q X (A + 1) (B + 6) 1544 [some (.ref 800), some (.ref 99), some (.ref 118), some (.ref 131), some (.ref 132), some (.int (nI i)), none, none, none, none] [] M := by
  have hP := hI.2.2
  have hk9 : (a_bids S.1.1 (xs (i + 1))).1 ≤ 3 := ck_a_bids
  refine zj_aload1 (n := 1545) rfl dL_law_1544 ?_
  refine zj_aload0 (n := 1546) rfl dL_law_1545 ?_
  refine zj_iload5 (n := 1548) rfl dL_law_1546 ?_
  refine zj_iconstN_1 (n := 1549) rfl dL_law_1548 ?_
  refine zj_iaddN (n := 1550) rfl dL_law_1549 ?_
  refine zj_sldN hL (n := 1551) rfl dL_law_1550 (by omega) ?_
  refine zj_aload3 (n := 1552) rfl dL_law_1551 ?_
  refine zj_callLW3 (n := 1555) (a' := A + 0) (b' := B + 0) rfl dL_law_1552 zw_L_243 (by decide) (Nat.le_of_ble_eq_true rfl) (by show 1 + (A + 0) ≤ A + 1; omega) (by show 6 + (B + 0) ≤ B + 6; omega) (Nat.le_of_ble_eq_true rfl) (jL_bids hI.1 hP (fun M1 hF1 hI1 hv1 => ?_))
  have hm := hI.2.1.fr hF1
  refine zj_istore6 (n := 1557) rfl dL_law_1555 rfl (Nat.le_of_ble_eq_true rfl) ?_
  refine zj_aload2 (n := 1558) rfl dL_law_1557 ?_
  refine zj_aload0 (n := 1559) rfl dL_law_1558 ?_
  refine zj_iload5 (n := 1561) rfl dL_law_1559 ?_
  refine zj_iconstN_1 (n := 1562) rfl dL_law_1561 ?_
  refine zj_iaddN (n := 1563) rfl dL_law_1562 ?_
  refine zj_sldN hL (n := 1564) rfl dL_law_1563 (by omega) ?_
  refine zj_callLV1 (n := 1567) (R' := rX10_bids) (a' := A + 0) (b' := B + 0) rfl dL_law_1564 zm_L_245 (by decide) (by decide) rfl (Nat.le_of_ble_eq_true rfl) (by show 0 + (A + 0) ≤ A + 0; omega) (by show 0 + (B + 0) ≤ B + 0; omega) (Nat.le_of_ble_eq_true rfl) (jX10_bids hm.1 hP.1 hm.2.1 (fun M2 hq2 ht2 => ?_))
  have hI2 := hm.q hq2
  have hf2 := hq2.fM
  have hc2 := hI1.frM hf2
  have hv2 := fun q => (congrFun hf2.2.1 0).trans (hv1 q)
  obtain ⟨b9, hb9⟩ := zq_bids (v := S.1.1) (x := xs (i + 1))
  rw [hb9]
  rw [hb9] at hv2
  refine zj_istore7 (n := 1569) rfl dL_law_1567 rfl (Nat.le_of_ble_eq_true rfl) ?_
  refine zj_aload2 (n := 1570) rfl dL_law_1569 ?_
  refine zj_callLV0 (n := 1573) (a' := A + 0) (b' := B + 0) rfl dL_law_1570 zm_L_156 (by decide) (by decide) rfl (Nat.le_of_ble_eq_true rfl) (by show 0 + (A + 0) ≤ A + 0; omega) (by show 0 + (B + 0) ≤ B + 0; omega) (Nat.le_of_ble_eq_true rfl) (jX10_thrownN ht2 ?_)
  refine zj_iload6 (n := 1575) rfl dL_law_1573 ?_
  refine zj_icmp_eq (n := 1578) (tgt := 1580) rfl dL_law_1575 (by decide) (fun _ => ?_) (fun c9 => absurd rfl c9)
  refine zj_iload6 (n := 1582) rfl dL_law_1580 ?_
  refine zj_ifN_ne (n := 1585) (tgt := 1604) rfl dL_law_1582 (by decide) (by omega) (fun c1582 => ?_) (fun c1582 => ?_)
  · refine zj_goto (tgt := 3048) dL_law_1604 (by decide) ?_
    refine zj_keepG [true, true, true, true, true, true, false, false, false, false] ?_
    exact h M2 S ⟨hc2, hI2, hP⟩
  · refine zj_aload3 (n := 1586) rfl dL_law_1585 ?_
    refine zj_iconstN_0 (n := 1587) rfl dL_law_1586 ?_
    refine zj_laloadW (x := (zb b9).toInt64) (n := 1588) rfl dL_law_1587 (by decide) rfl (by decide) (hv2 (by omega)) ?_
    refine zj_iload7 (n := 1590) rfl dL_law_1588 ?_
    refine zj_ifB_eq (n := 1593) (tgt := 1597) rfl dL_law_1590 (by decide) (fun c1590 => ?_) (fun c1590 => ?_)
    · refine zj_lconstN_0 (n := 1598) rfl dL_law_1597 ?_
      rw [c1590, show (zb false).toInt64 = lN 0 from rfl]
      refine zj_lcmpE (n := 1599) rfl dL_law_1598 ?_
      refine zj_ifN_eq (n := 1602) (tgt := 1604) rfl dL_law_1599 (by decide) (by omega) (fun _ => ?_) (fun h => absurd h (by decide))
      refine zj_goto (tgt := 3048) dL_law_1604 (by decide) ?_
      refine zj_keepG [true, true, true, true, true, true, false, false, false, false] ?_
      exact h M2 S ⟨hc2, hI2, hP⟩
    · refine zj_lconstN_1 (n := 1594) rfl dL_law_1593 ?_
      refine zj_goto (tgt := 1598) dL_law_1594 (by decide) ?_
      rw [c1590, show (zb true).toInt64 = lN 1 from rfl]
      refine zj_lcmpE (n := 1599) rfl dL_law_1598 ?_
      refine zj_ifN_eq (n := 1602) (tgt := 1604) rfl dL_law_1599 (by decide) (by omega) (fun _ => ?_) (fun h => absurd h (by decide))
      refine zj_goto (tgt := 3048) dL_law_1604 (by decide) ?_
      refine zj_keepG [true, true, true, true, true, true, false, false, false, false] ?_
      exact h M2 S ⟨hc2, hI2, hP⟩
theorem z_case26 {L i A B : Nat} {xs : Nat → Int32} {S : zLS} {Q : Option Value → zM → Prop} {X : String → zM → Prop} {M : zM} (hL : L ≤ 3072) (hi : i + 6 ≤ L) (hI : zI M S) (h : ∀ M' S', zI M' S' → zJG (zGL L xs) yL_law cL_law 10 (some .boolean) room_1 Q X A B 3048 [some (.ref 800), some (.ref 99), some (.ref 118), some (.ref 131), some (.ref 132), some (.int (nI i)), none, none, none, none] [] M') : zJG (zGL L xs) yL_law cL_law 10 (some .boolean) room_1 Q X (A + 1) (B + 6) 1607 [some (.ref 800), some (.ref 99), some (.ref 118), some (.ref 131), some (.ref 132), some (.int (nI i)), none, none, none, none] [] M := by
  have hP := hI.2.2
  have hk9 : (a_target S.1.1 (xs (i + 1))).1 ≤ 3 := ck_a_target
  refine zj_aload1 (n := 1608) rfl dL_law_1607 ?_
  refine zj_aload0 (n := 1609) rfl dL_law_1608 ?_
  refine zj_iload5 (n := 1611) rfl dL_law_1609 ?_
  refine zj_iconstN_1 (n := 1612) rfl dL_law_1611 ?_
  refine zj_iaddN (n := 1613) rfl dL_law_1612 ?_
  refine zj_sldN hL (n := 1614) rfl dL_law_1613 (by omega) ?_
  refine zj_aload3 (n := 1615) rfl dL_law_1614 ?_
  refine zj_callLW3 (n := 1618) (a' := A + 0) (b' := B + 0) rfl dL_law_1615 zw_L_246 (by decide) (Nat.le_of_ble_eq_true rfl) (by show 1 + (A + 0) ≤ A + 1; omega) (by show 6 + (B + 0) ≤ B + 6; omega) (Nat.le_of_ble_eq_true rfl) (jL_target hI.1 hP (fun M1 hF1 hI1 hv1 => ?_))
  have hm := hI.2.1.fr hF1
  refine zj_istore6 (n := 1620) rfl dL_law_1618 rfl (Nat.le_of_ble_eq_true rfl) ?_
  refine zj_aload2 (n := 1621) rfl dL_law_1620 ?_
  refine zj_aload0 (n := 1622) rfl dL_law_1621 ?_
  refine zj_iload5 (n := 1624) rfl dL_law_1622 ?_
  refine zj_iconstN_1 (n := 1625) rfl dL_law_1624 ?_
  refine zj_iaddN (n := 1626) rfl dL_law_1625 ?_
  refine zj_sldN hL (n := 1627) rfl dL_law_1626 (by omega) ?_
  refine zj_callLV1 (n := 1630) (R' := rX10_target) (a' := A + 0) (b' := B + 0) rfl dL_law_1627 zm_L_248 (by decide) (by decide) rfl (Nat.le_of_ble_eq_true rfl) (by show 0 + (A + 0) ≤ A + 0; omega) (by show 0 + (B + 0) ≤ B + 0; omega) (Nat.le_of_ble_eq_true rfl) (jX10_target hm.1 hP.1 hm.2.1 (fun M2 hq2 ht2 => ?_))
  have hI2 := hm.q hq2
  have hf2 := hq2.fM
  have hc2 := hI1.frM hf2
  have hv2 := fun q => (congrFun hf2.2.1 0).trans (hv1 q)
  refine zj_istore7 (n := 1632) rfl dL_law_1630 rfl (Nat.le_of_ble_eq_true rfl) ?_
  refine zj_aload2 (n := 1633) rfl dL_law_1632 ?_
  refine zj_callLV0 (n := 1636) (a' := A + 0) (b' := B + 0) rfl dL_law_1633 zm_L_156 (by decide) (by decide) rfl (Nat.le_of_ble_eq_true rfl) (by show 0 + (A + 0) ≤ A + 0; omega) (by show 0 + (B + 0) ≤ B + 0; omega) (Nat.le_of_ble_eq_true rfl) (jX10_thrownN ht2 ?_)
  refine zj_iload6 (n := 1638) rfl dL_law_1636 ?_
  refine zj_icmp_eq (n := 1641) (tgt := 1643) rfl dL_law_1638 (by decide) (fun _ => ?_) (fun c9 => absurd rfl c9)
  refine zj_iload6 (n := 1645) rfl dL_law_1643 ?_
  refine zj_ifN_ne (n := 1648) (tgt := 1660) rfl dL_law_1645 (by decide) (by omega) (fun c1645 => ?_) (fun c1645 => ?_)
  · refine zj_goto (tgt := 3048) dL_law_1660 (by decide) ?_
    refine zj_keepG [true, true, true, true, true, true, false, false, false, false] ?_
    exact h M2 S ⟨hc2, hI2, hP⟩
  · refine zj_aload3 (n := 1649) rfl dL_law_1648 ?_
    refine zj_iconstN_0 (n := 1650) rfl dL_law_1649 ?_
    refine zj_laloadW (x := (a_target S.1.1 (xs (i + 1))).2.toInt64) (n := 1651) rfl dL_law_1650 (by decide) rfl (by decide) (hv2 (by omega)) ?_
    refine zj_iload7 (n := 1653) rfl dL_law_1651 ?_
    refine zj_i2l (n := 1654) rfl dL_law_1653 ?_
    refine zj_lcmpE (n := 1655) rfl dL_law_1654 ?_
    refine zj_ifN_eq (n := 1658) (tgt := 1660) rfl dL_law_1655 (by decide) (by omega) (fun _ => ?_) (fun h => absurd h (by decide))
    refine zj_goto (tgt := 3048) dL_law_1660 (by decide) ?_
    refine zj_keepG [true, true, true, true, true, true, false, false, false, false] ?_
    exact h M2 S ⟨hc2, hI2, hP⟩
theorem z_case27 {L i A B : Nat} {xs : Nat → Int32} {S : zLS} {Q : Option Value → zM → Prop} {X : String → zM → Prop} {M : zM} (hL : L ≤ 3072) (hi : i + 6 ≤ L) (hI : zI M S) (h : ∀ M' S', zI M' S' → zJG (zGL L xs) yL_law cL_law 10 (some .boolean) room_1 Q X A B 3048 [some (.ref 800), some (.ref 99), some (.ref 118), some (.ref 131), some (.ref 132), some (.int (nI i)), none, none, none, none] [] M') : zJG (zGL L xs) yL_law cL_law 10 (some .boolean) room_1 Q X (A + 1) (B + 6) 1663 [some (.ref 800), some (.ref 99), some (.ref 118), some (.ref 131), some (.ref 132), some (.int (nI i)), none, none, none, none] [] M := by
  have hP := hI.2.2
  have hk9 : (a_bidder S.1.1 (xs (i + 1))).1 ≤ 3 := ck_a_bidder
  refine zj_aload1 (n := 1664) rfl dL_law_1663 ?_
  refine zj_aload0 (n := 1665) rfl dL_law_1664 ?_
  refine zj_iload5 (n := 1667) rfl dL_law_1665 ?_
  refine zj_iconstN_1 (n := 1668) rfl dL_law_1667 ?_
  refine zj_iaddN (n := 1669) rfl dL_law_1668 ?_
  refine zj_sldN hL (n := 1670) rfl dL_law_1669 (by omega) ?_
  refine zj_aload3 (n := 1671) rfl dL_law_1670 ?_
  refine zj_callLW3 (n := 1674) (a' := A + 0) (b' := B + 0) rfl dL_law_1671 zw_L_249 (by decide) (Nat.le_of_ble_eq_true rfl) (by show 1 + (A + 0) ≤ A + 1; omega) (by show 6 + (B + 0) ≤ B + 6; omega) (Nat.le_of_ble_eq_true rfl) (jL_bidder hI.1 hP (fun M1 hF1 hI1 hv1 => ?_))
  have hm := hI.2.1.fr hF1
  refine zj_istore6 (n := 1676) rfl dL_law_1674 rfl (Nat.le_of_ble_eq_true rfl) ?_
  refine zj_aload2 (n := 1677) rfl dL_law_1676 ?_
  refine zj_aload0 (n := 1678) rfl dL_law_1677 ?_
  refine zj_iload5 (n := 1680) rfl dL_law_1678 ?_
  refine zj_iconstN_1 (n := 1681) rfl dL_law_1680 ?_
  refine zj_iaddN (n := 1682) rfl dL_law_1681 ?_
  refine zj_sldN hL (n := 1683) rfl dL_law_1682 (by omega) ?_
  refine zj_callLV1 (n := 1686) (R' := rX10_bidder) (a' := A + 0) (b' := B + 0) rfl dL_law_1683 zm_L_251 (by decide) (by decide) rfl (Nat.le_of_ble_eq_true rfl) (by show 0 + (A + 0) ≤ A + 0; omega) (by show 0 + (B + 0) ≤ B + 0; omega) (Nat.le_of_ble_eq_true rfl) (jX10_bidder hm.1 hP.1 hm.2.1 (fun M2 hq2 ht2 => ?_))
  have hI2 := hm.q hq2
  have hf2 := hq2.fM
  have hc2 := hI1.frM hf2
  have hv2 := fun q => (congrFun hf2.2.1 0).trans (hv1 q)
  refine zj_istore7 (n := 1688) rfl dL_law_1686 rfl (Nat.le_of_ble_eq_true rfl) ?_
  refine zj_aload2 (n := 1689) rfl dL_law_1688 ?_
  refine zj_callLV0 (n := 1692) (a' := A + 0) (b' := B + 0) rfl dL_law_1689 zm_L_156 (by decide) (by decide) rfl (Nat.le_of_ble_eq_true rfl) (by show 0 + (A + 0) ≤ A + 0; omega) (by show 0 + (B + 0) ≤ B + 0; omega) (Nat.le_of_ble_eq_true rfl) (jX10_thrownN ht2 ?_)
  refine zj_iload6 (n := 1694) rfl dL_law_1692 ?_
  refine zj_icmp_eq (n := 1697) (tgt := 1699) rfl dL_law_1694 (by decide) (fun _ => ?_) (fun c9 => absurd rfl c9)
  refine zj_iload6 (n := 1701) rfl dL_law_1699 ?_
  refine zj_ifN_ne (n := 1704) (tgt := 1716) rfl dL_law_1701 (by decide) (by omega) (fun c1701 => ?_) (fun c1701 => ?_)
  · refine zj_goto (tgt := 3048) dL_law_1716 (by decide) ?_
    refine zj_keepG [true, true, true, true, true, true, false, false, false, false] ?_
    exact h M2 S ⟨hc2, hI2, hP⟩
  · refine zj_aload3 (n := 1705) rfl dL_law_1704 ?_
    refine zj_iconstN_0 (n := 1706) rfl dL_law_1705 ?_
    refine zj_laloadW (x := (a_bidder S.1.1 (xs (i + 1))).2.toInt64) (n := 1707) rfl dL_law_1706 (by decide) rfl (by decide) (hv2 (by omega)) ?_
    refine zj_iload7 (n := 1709) rfl dL_law_1707 ?_
    refine zj_i2l (n := 1710) rfl dL_law_1709 ?_
    refine zj_lcmpE (n := 1711) rfl dL_law_1710 ?_
    refine zj_ifN_eq (n := 1714) (tgt := 1716) rfl dL_law_1711 (by decide) (by omega) (fun _ => ?_) (fun h => absurd h (by decide))
    refine zj_goto (tgt := 3048) dL_law_1716 (by decide) ?_
    refine zj_keepG [true, true, true, true, true, true, false, false, false, false] ?_
    exact h M2 S ⟨hc2, hI2, hP⟩
theorem z_case28 {L i A B : Nat} {xs : Nat → Int32} {S : zLS} {Q : Option Value → zM → Prop} {X : String → zM → Prop} {M : zM} (hL : L ≤ 3072) (hi : i + 6 ≤ L) (hI : zI M S) (h : ∀ M' S', zI M' S' → zJG (zGL L xs) yL_law cL_law 10 (some .boolean) room_1 Q X A B 3048 [some (.ref 800), some (.ref 99), some (.ref 118), some (.ref 131), some (.ref 132), some (.int (nI i)), none, none, none, none] [] M') : zJG (zGL L xs) yL_law cL_law 10 (some .boolean) room_1 Q X (A + 2) (B + 12) 1719 [some (.ref 800), some (.ref 99), some (.ref 118), some (.ref 131), some (.ref 132), some (.int (nI i)), none, none, none, none] [] M := by
  have hP := hI.2.2
  have hk9 : (a_outcome S.1.1 (xs (i + 1)) (xs (i + 2))).1 ≤ 3 := ck_a_outcome
  refine zj_aload1 (n := 1720) rfl dL_law_1719 ?_
  refine zj_aload0 (n := 1721) rfl dL_law_1720 ?_
  refine zj_iload5 (n := 1723) rfl dL_law_1721 ?_
  refine zj_iconstN_1 (n := 1724) rfl dL_law_1723 ?_
  refine zj_iaddN (n := 1725) rfl dL_law_1724 ?_
  refine zj_sldN hL (n := 1726) rfl dL_law_1725 (by omega) ?_
  refine zj_aload0 (n := 1727) rfl dL_law_1726 ?_
  refine zj_iload5 (n := 1729) rfl dL_law_1727 ?_
  refine zj_iconstN_2 (n := 1730) rfl dL_law_1729 ?_
  refine zj_iaddN (n := 1731) rfl dL_law_1730 ?_
  refine zj_sldN hL (n := 1732) rfl dL_law_1731 (by omega) ?_
  refine zj_aload3 (n := 1733) rfl dL_law_1732 ?_
  refine zj_callLW4 (n := 1736) (a' := A + 0) (b' := B + 0) rfl dL_law_1733 zw_L_252 (by decide) (Nat.le_of_ble_eq_true rfl) (by show 2 + (A + 0) ≤ A + 2; omega) (by show 12 + (B + 0) ≤ B + 12; omega) (Nat.le_of_ble_eq_true rfl) (jL_outcome hI.1 hP (fun M1 hF1 hI1 hv1 => ?_))
  have hm := hI.2.1.fr hF1
  refine zj_istore6 (n := 1738) rfl dL_law_1736 rfl (Nat.le_of_ble_eq_true rfl) ?_
  refine zj_aload2 (n := 1739) rfl dL_law_1738 ?_
  refine zj_aload0 (n := 1740) rfl dL_law_1739 ?_
  refine zj_iload5 (n := 1742) rfl dL_law_1740 ?_
  refine zj_iconstN_1 (n := 1743) rfl dL_law_1742 ?_
  refine zj_iaddN (n := 1744) rfl dL_law_1743 ?_
  refine zj_sldN hL (n := 1745) rfl dL_law_1744 (by omega) ?_
  refine zj_aload0 (n := 1746) rfl dL_law_1745 ?_
  refine zj_iload5 (n := 1748) rfl dL_law_1746 ?_
  refine zj_iconstN_2 (n := 1749) rfl dL_law_1748 ?_
  refine zj_iaddN (n := 1750) rfl dL_law_1749 ?_
  refine zj_sldN hL (n := 1751) rfl dL_law_1750 (by omega) ?_
  refine zj_callLV2 (n := 1754) (R' := rX10_outcome) (a' := A + 0) (b' := B + 0) rfl dL_law_1751 zm_L_254 (by decide) (by decide) rfl (Nat.le_of_ble_eq_true rfl) (by show 0 + (A + 0) ≤ A + 0; omega) (by show 0 + (B + 0) ≤ B + 0; omega) (Nat.le_of_ble_eq_true rfl) (jX10_outcome hm.1 hP.1 hm.2.1 (fun M2 hq2 ht2 => ?_))
  have hI2 := hm.q hq2
  have hf2 := hq2.fM
  have hc2 := hI1.frM hf2
  have hv2 := fun q => (congrFun hf2.2.1 0).trans (hv1 q)
  refine zj_istore7 (n := 1756) rfl dL_law_1754 rfl (Nat.le_of_ble_eq_true rfl) ?_
  refine zj_aload2 (n := 1757) rfl dL_law_1756 ?_
  refine zj_callLV0 (n := 1760) (a' := A + 0) (b' := B + 0) rfl dL_law_1757 zm_L_156 (by decide) (by decide) rfl (Nat.le_of_ble_eq_true rfl) (by show 0 + (A + 0) ≤ A + 0; omega) (by show 0 + (B + 0) ≤ B + 0; omega) (Nat.le_of_ble_eq_true rfl) (jX10_thrownN ht2 ?_)
  refine zj_iload6 (n := 1762) rfl dL_law_1760 ?_
  refine zj_icmp_eq (n := 1765) (tgt := 1767) rfl dL_law_1762 (by decide) (fun _ => ?_) (fun c9 => absurd rfl c9)
  refine zj_iload6 (n := 1769) rfl dL_law_1767 ?_
  refine zj_ifN_ne (n := 1772) (tgt := 1784) rfl dL_law_1769 (by decide) (by omega) (fun c1769 => ?_) (fun c1769 => ?_)
  · refine zj_goto (tgt := 3048) dL_law_1784 (by decide) ?_
    refine zj_keepG [true, true, true, true, true, true, false, false, false, false] ?_
    exact h M2 S ⟨hc2, hI2, hP⟩
  · refine zj_aload3 (n := 1773) rfl dL_law_1772 ?_
    refine zj_iconstN_0 (n := 1774) rfl dL_law_1773 ?_
    refine zj_laloadW (x := (a_outcome S.1.1 (xs (i + 1)) (xs (i + 2))).2.toInt64) (n := 1775) rfl dL_law_1774 (by decide) rfl (by decide) (hv2 (by omega)) ?_
    refine zj_iload7 (n := 1777) rfl dL_law_1775 ?_
    refine zj_i2l (n := 1778) rfl dL_law_1777 ?_
    refine zj_lcmpE (n := 1779) rfl dL_law_1778 ?_
    refine zj_ifN_eq (n := 1782) (tgt := 1784) rfl dL_law_1779 (by decide) (by omega) (fun _ => ?_) (fun h => absurd h (by decide))
    refine zj_goto (tgt := 3048) dL_law_1784 (by decide) ?_
    refine zj_keepG [true, true, true, true, true, true, false, false, false, false] ?_
    exact h M2 S ⟨hc2, hI2, hP⟩
theorem z_case29 {L i A B : Nat} {xs : Nat → Int32} {S : zLS} {Q : Option Value → zM → Prop} {X : String → zM → Prop} {M : zM} (hL : L ≤ 3072) (hi : i + 6 ≤ L) (hI : zI M S) (h : ∀ M' S', zI M' S' → zJG (zGL L xs) yL_law cL_law 10 (some .boolean) room_1 Q X A B 3048 [some (.ref 800), some (.ref 99), some (.ref 118), some (.ref 131), some (.ref 132), some (.int (nI i)), none, none, none, none] [] M') : zJG (zGL L xs) yL_law cL_law 10 (some .boolean) room_1 Q X (A + 0) (B + 0) 1787 [some (.ref 800), some (.ref 99), some (.ref 118), some (.ref 131), some (.ref 132), some (.int (nI i)), none, none, none, none] [] M := by
  have hP := hI.2.2
  refine zj_aload1 (n := 1788) rfl dL_law_1787 ?_
  refine zj_callLV0 (n := 1791) (a' := A + 0) (b' := B + 0) rfl dL_law_1788 zm_L_255 (by decide) (by decide) rfl (Nat.le_of_ble_eq_true rfl) (by show 0 + (A + 0) ≤ A + 0; omega) (by show 0 + (B + 0) ≤ B + 0; omega) (Nat.le_of_ble_eq_true rfl) (jX9_clearingPrice hI.1.1 hP.1 (fun _ M1 hq1 => ?_))
  have hF1 := hq1.fC
  have hI1 := hI.1.q hq1
  have hm := hI.2.1.fr hF1
  refine zj_aload2 (n := 1792) rfl dL_law_1791 ?_
  refine zj_callLV0 (n := 1795) (R' := rX10_clearingPrice) (a' := A + 0) (b' := B + 0) rfl dL_law_1792 zm_L_258 (by decide) (by decide) rfl (Nat.le_of_ble_eq_true rfl) (by show 0 + (A + 0) ≤ A + 0; omega) (by show 0 + (B + 0) ≤ B + 0; omega) (Nat.le_of_ble_eq_true rfl) (jX10_clearingPrice hm.1 hP.1 hm.2.1 (fun M2 hq2 ht2 => ?_))
  have hI2 := hm.q hq2
  have hf2 := hq2.fM
  have hc2 := hI1.frM hf2
  refine zj_icmp_eq (n := 1798) (tgt := 3048) rfl dL_law_1795 (by decide) (fun _ => ?_) (fun c9 => absurd rfl c9)
  refine zj_keepG [true, true, true, true, true, true, false, false, false, false] ?_
  exact h M2 S ⟨hc2, hI2, hP⟩
theorem z_case30 {L i A B : Nat} {xs : Nat → Int32} {S : zLS} {Q : Option Value → zM → Prop} {X : String → zM → Prop} {M : zM} (hL : L ≤ 3072) (hi : i + 6 ≤ L) (hI : zI M S) (h : ∀ M' S', zI M' S' → zJG (zGL L xs) yL_law cL_law 10 (some .boolean) room_1 Q X A B 3048 [some (.ref 800), some (.ref 99), some (.ref 118), some (.ref 131), some (.ref 132), some (.int (nI i)), none, none, none, none] [] M') : zJG (zGL L xs) yL_law cL_law 10 (some .boolean) room_1 Q X (A + 0) (B + 0) 1800 [some (.ref 800), some (.ref 99), some (.ref 118), some (.ref 131), some (.ref 132), some (.int (nI i)), none, none, none, none] [] M := by
  have hP := hI.2.2
  refine zj_aload1 (n := 1801) rfl dL_law_1800 ?_
  refine zj_callLV0 (n := 1804) (a' := A + 0) (b' := B + 0) rfl dL_law_1801 zm_L_259 (by decide) (by decide) rfl (Nat.le_of_ble_eq_true rfl) (by show 0 + (A + 0) ≤ A + 0; omega) (by show 0 + (B + 0) ≤ B + 0; omega) (Nat.le_of_ble_eq_true rfl) (jX9_bandwidth hI.1.1 hP.1 (fun _ M1 hq1 => ?_))
  have hF1 := hq1.fC
  have hI1 := hI.1.q hq1
  have hm := hI.2.1.fr hF1
  refine zj_aload2 (n := 1805) rfl dL_law_1804 ?_
  refine zj_callLV0 (n := 1808) (R' := rX10_bandwidth) (a' := A + 0) (b' := B + 0) rfl dL_law_1805 zm_L_262 (by decide) (by decide) rfl (Nat.le_of_ble_eq_true rfl) (by show 0 + (A + 0) ≤ A + 0; omega) (by show 0 + (B + 0) ≤ B + 0; omega) (Nat.le_of_ble_eq_true rfl) (jX10_bandwidth hm.1 hP.1 hm.2.1 (fun M2 hq2 ht2 => ?_))
  have hI2 := hm.q hq2
  have hf2 := hq2.fM
  have hc2 := hI1.frM hf2
  refine zj_icmp_eq (n := 1811) (tgt := 3048) rfl dL_law_1808 (by decide) (fun _ => ?_) (fun c9 => absurd rfl c9)
  refine zj_keepG [true, true, true, true, true, true, false, false, false, false] ?_
  exact h M2 S ⟨hc2, hI2, hP⟩
theorem z_case31 {L i A B : Nat} {xs : Nat → Int32} {S : zLS} {Q : Option Value → zM → Prop} {X : String → zM → Prop} {M : zM} (hL : L ≤ 3072) (hi : i + 6 ≤ L) (hI : zI M S) (h : ∀ M' S', zI M' S' → zJG (zGL L xs) yL_law cL_law 10 (some .boolean) room_1 Q X A B 3048 [some (.ref 800), some (.ref 99), some (.ref 118), some (.ref 131), some (.ref 132), some (.int (nI i)), none, none, none, none] [] M') : zJG (zGL L xs) yL_law cL_law 10 (some .boolean) room_1 Q X (A + 0) (B + 0) 1813 [some (.ref 800), some (.ref 99), some (.ref 118), some (.ref 131), some (.ref 132), some (.int (nI i)), none, none, none, none] [] M := by
  have hP := hI.2.2
  refine zj_aload1 (n := 1814) rfl dL_law_1813 ?_
  refine zj_callLV0 (n := 1817) (a' := A + 0) (b' := B + 0) rfl dL_law_1814 zm_L_263 (by decide) (by decide) rfl (Nat.le_of_ble_eq_true rfl) (by show 0 + (A + 0) ≤ A + 0; omega) (by show 0 + (B + 0) ≤ B + 0; omega) (Nat.le_of_ble_eq_true rfl) (jX9_nextRound hI.1.1 hP.1 (fun _ M1 hq1 => ?_))
  have hF1 := hq1.fC
  have hI1 := hI.1.q hq1
  have hm := hI.2.1.fr hF1
  refine zj_aload2 (n := 1818) rfl dL_law_1817 ?_
  refine zj_callLV0 (n := 1821) (R' := rX10_nextRound) (a' := A + 0) (b' := B + 0) rfl dL_law_1818 zm_L_266 (by decide) (by decide) rfl (Nat.le_of_ble_eq_true rfl) (by show 0 + (A + 0) ≤ A + 0; omega) (by show 0 + (B + 0) ≤ B + 0; omega) (Nat.le_of_ble_eq_true rfl) (jX10_nextRound hm.1 hP.1 hm.2.1 (fun M2 hq2 ht2 => ?_))
  have hI2 := hm.q hq2
  have hf2 := hq2.fM
  have hc2 := hI1.frM hf2
  refine zj_icmp_eq (n := 1824) (tgt := 3048) rfl dL_law_1821 (by decide) (fun _ => ?_) (fun c9 => absurd rfl c9)
  refine zj_keepG [true, true, true, true, true, true, false, false, false, false] ?_
  exact h M2 S ⟨hc2, hI2, hP⟩
theorem z_case32 {L i A B : Nat} {xs : Nat → Int32} {S : zLS} {Q : Option Value → zM → Prop} {X : String → zM → Prop} {M : zM} (hL : L ≤ 3072) (hi : i + 6 ≤ L) (hI : zI M S) (h : ∀ M' S', zI M' S' → zJG (zGL L xs) yL_law cL_law 10 (some .boolean) room_1 Q X A B 3048 [some (.ref 800), some (.ref 99), some (.ref 118), some (.ref 131), some (.ref 132), some (.int (nI i)), none, none, none, none] [] M') : zJG (zGL L xs) yL_law cL_law 10 (some .boolean) room_1 Q X (A + 2) (B + 12) 1826 [some (.ref 800), some (.ref 99), some (.ref 118), some (.ref 131), some (.ref 132), some (.int (nI i)), none, none, none, none] [] M := by
  have hP := hI.2.2
  have hk9 : (a_fail S.1.1 (xs (i + 1))).1 ≤ 3 := ck_a_fail
  refine zj_aload1 (n := 1827) rfl dL_law_1826 ?_
  refine zj_aload0 (n := 1828) rfl dL_law_1827 ?_
  refine zj_iload5 (n := 1830) rfl dL_law_1828 ?_
  refine zj_iconstN_1 (n := 1831) rfl dL_law_1830 ?_
  refine zj_iaddN (n := 1832) rfl dL_law_1831 ?_
  refine zj_sldN hL (n := 1833) rfl dL_law_1832 (by omega) ?_
  refine zj_aload3 (n := 1834) rfl dL_law_1833 ?_
  refine zj_callLW3 (n := 1837) (a' := A + 0) (b' := B + 0) rfl dL_law_1834 zw_L_267 (by decide) (Nat.le_of_ble_eq_true rfl) (by show 2 + (A + 0) ≤ A + 2; omega) (by show 12 + (B + 0) ≤ B + 12; omega) (Nat.le_of_ble_eq_true rfl) (jL_fail hI.1 hP (fun M1 hF1 hI1 hv1 => ?_))
  have hm := hI.2.1.fr hF1
  refine zj_istore6 (n := 1839) rfl dL_law_1837 rfl (Nat.le_of_ble_eq_true rfl) ?_
  refine zj_aload2 (n := 1840) rfl dL_law_1839 ?_
  refine zj_aload0 (n := 1841) rfl dL_law_1840 ?_
  refine zj_iload5 (n := 1843) rfl dL_law_1841 ?_
  refine zj_iconstN_1 (n := 1844) rfl dL_law_1843 ?_
  refine zj_iaddN (n := 1845) rfl dL_law_1844 ?_
  refine zj_sldN hL (n := 1846) rfl dL_law_1845 (by omega) ?_
  refine zj_callLV1 (n := 1849) (R' := rX10_fail) (a' := A + 0) (b' := B + 0) rfl dL_law_1846 zm_L_269 (by decide) (by decide) rfl (Nat.le_of_ble_eq_true rfl) (by show 0 + (A + 0) ≤ A + 0; omega) (by show 0 + (B + 0) ≤ B + 0; omega) (Nat.le_of_ble_eq_true rfl) (jX10_fail hm.1 hP.1 hm.2.1 hm.2.2.1 (fun M2 hm2 ht2 hA2 hU2 => ?_))
  have hI2 : zIm M2 (skeep (a_fail S.1.1 (xs (i + 1))).1 (vst S.1.1 (xn (xs (i + 1))) 1) S.1.1 S.1.2.1 S.1.2.2, S.2) := hm.m hm2 hA2 hU2
  have hf2 := hm2.fM
  have hc2 := hI1.frM hf2
  have hv2 := fun q => (congrFun hf2.2.1 0).trans (hv1 q)
  refine zj_istore7 (n := 1851) rfl dL_law_1849 rfl (Nat.le_of_ble_eq_true rfl) ?_
  refine zj_aload2 (n := 1852) rfl dL_law_1851 ?_
  refine zj_callLV0 (n := 1855) (a' := A + 0) (b' := B + 0) rfl dL_law_1852 zm_L_156 (by decide) (by decide) rfl (Nat.le_of_ble_eq_true rfl) (by show 0 + (A + 0) ≤ A + 0; omega) (by show 0 + (B + 0) ≤ B + 0; omega) (Nat.le_of_ble_eq_true rfl) (jX10_thrownN ht2 ?_)
  refine zj_iload6 (n := 1857) rfl dL_law_1855 ?_
  refine zj_icmp_eq (n := 1860) (tgt := 1862) rfl dL_law_1857 (by decide) (fun _ => ?_) (fun c9 => absurd rfl c9)
  refine zj_iload6 (n := 1864) rfl dL_law_1862 ?_
  refine zj_ifN_ne (n := 1867) (tgt := 1879) rfl dL_law_1864 (by decide) (by omega) (fun c1864 => ?_) (fun c1864 => ?_)
  · refine zj_goto (tgt := 3048) dL_law_1879 (by decide) ?_
    refine zj_keepG [true, true, true, true, true, true, false, false, false, false] ?_
    exact h M2 (skeep (a_fail S.1.1 (xs (i + 1))).1 (vst S.1.1 (xn (xs (i + 1))) 1) S.1.1 S.1.2.1 S.1.2.2, S.2) ⟨hc2, hI2, hP.keep _ (fun q => zp_fail hP.1 hP.2.1 q)⟩
  · refine zj_aload3 (n := 1868) rfl dL_law_1867 ?_
    refine zj_iconstN_0 (n := 1869) rfl dL_law_1868 ?_
    refine zj_laloadW (x := (a_fail S.1.1 (xs (i + 1))).2.toInt64) (n := 1870) rfl dL_law_1869 (by decide) rfl (by decide) (hv2 (by omega)) ?_
    refine zj_iload7 (n := 1872) rfl dL_law_1870 ?_
    refine zj_i2l (n := 1873) rfl dL_law_1872 ?_
    refine zj_lcmpE (n := 1874) rfl dL_law_1873 ?_
    refine zj_ifN_eq (n := 1877) (tgt := 1879) rfl dL_law_1874 (by decide) (by omega) (fun _ => ?_) (fun h => absurd h (by decide))
    refine zj_goto (tgt := 3048) dL_law_1879 (by decide) ?_
    refine zj_keepG [true, true, true, true, true, true, false, false, false, false] ?_
    exact h M2 (skeep (a_fail S.1.1 (xs (i + 1))).1 (vst S.1.1 (xn (xs (i + 1))) 1) S.1.1 S.1.2.1 S.1.2.2, S.2) ⟨hc2, hI2, hP.keep _ (fun q => zp_fail hP.1 hP.2.1 q)⟩
theorem z_case33 {L i A B : Nat} {xs : Nat → Int32} {S : zLS} {Q : Option Value → zM → Prop} {X : String → zM → Prop} {M : zM} (hL : L ≤ 3072) (hi : i + 6 ≤ L) (hI : zI M S) (h : ∀ M' S', zI M' S' → zJG (zGL L xs) yL_law cL_law 10 (some .boolean) room_1 Q X A B 3048 [some (.ref 800), some (.ref 99), some (.ref 118), some (.ref 131), some (.ref 132), some (.int (nI i)), none, none, none, none] [] M') : zJG (zGL L xs) yL_law cL_law 10 (some .boolean) room_1 Q X (A + 2) (B + 12) 1882 [some (.ref 800), some (.ref 99), some (.ref 118), some (.ref 131), some (.ref 132), some (.int (nI i)), none, none, none, none] [] M := by
  have hP := hI.2.2
  have hk9 : (a_recover S.1.1 (xs (i + 1))).1 ≤ 3 := ck_a_recover
  refine zj_aload1 (n := 1883) rfl dL_law_1882 ?_
  refine zj_aload0 (n := 1884) rfl dL_law_1883 ?_
  refine zj_iload5 (n := 1886) rfl dL_law_1884 ?_
  refine zj_iconstN_1 (n := 1887) rfl dL_law_1886 ?_
  refine zj_iaddN (n := 1888) rfl dL_law_1887 ?_
  refine zj_sldN hL (n := 1889) rfl dL_law_1888 (by omega) ?_
  refine zj_aload3 (n := 1890) rfl dL_law_1889 ?_
  refine zj_callLW3 (n := 1893) (a' := A + 0) (b' := B + 0) rfl dL_law_1890 zw_L_270 (by decide) (Nat.le_of_ble_eq_true rfl) (by show 2 + (A + 0) ≤ A + 2; omega) (by show 12 + (B + 0) ≤ B + 12; omega) (Nat.le_of_ble_eq_true rfl) (jL_recover hI.1 hP (fun M1 hF1 hI1 hv1 => ?_))
  have hm := hI.2.1.fr hF1
  refine zj_istore6 (n := 1895) rfl dL_law_1893 rfl (Nat.le_of_ble_eq_true rfl) ?_
  refine zj_aload2 (n := 1896) rfl dL_law_1895 ?_
  refine zj_aload0 (n := 1897) rfl dL_law_1896 ?_
  refine zj_iload5 (n := 1899) rfl dL_law_1897 ?_
  refine zj_iconstN_1 (n := 1900) rfl dL_law_1899 ?_
  refine zj_iaddN (n := 1901) rfl dL_law_1900 ?_
  refine zj_sldN hL (n := 1902) rfl dL_law_1901 (by omega) ?_
  refine zj_callLV1 (n := 1905) (R' := rX10_recover) (a' := A + 0) (b' := B + 0) rfl dL_law_1902 zm_L_272 (by decide) (by decide) rfl (Nat.le_of_ble_eq_true rfl) (by show 0 + (A + 0) ≤ A + 0; omega) (by show 0 + (B + 0) ≤ B + 0; omega) (Nat.le_of_ble_eq_true rfl) (jX10_recover hm.1 hP.1 hm.2.1 hm.2.2.1 (fun M2 hm2 ht2 hA2 hU2 => ?_))
  have hI2 : zIm M2 (skeep (a_recover S.1.1 (xs (i + 1))).1 (vst S.1.1 (xn (xs (i + 1))) 0) S.1.1 S.1.2.1 S.1.2.2, S.2) := hm.m hm2 hA2 hU2
  have hf2 := hm2.fM
  have hc2 := hI1.frM hf2
  have hv2 := fun q => (congrFun hf2.2.1 0).trans (hv1 q)
  refine zj_istore7 (n := 1907) rfl dL_law_1905 rfl (Nat.le_of_ble_eq_true rfl) ?_
  refine zj_aload2 (n := 1908) rfl dL_law_1907 ?_
  refine zj_callLV0 (n := 1911) (a' := A + 0) (b' := B + 0) rfl dL_law_1908 zm_L_156 (by decide) (by decide) rfl (Nat.le_of_ble_eq_true rfl) (by show 0 + (A + 0) ≤ A + 0; omega) (by show 0 + (B + 0) ≤ B + 0; omega) (Nat.le_of_ble_eq_true rfl) (jX10_thrownN ht2 ?_)
  refine zj_iload6 (n := 1913) rfl dL_law_1911 ?_
  refine zj_icmp_eq (n := 1916) (tgt := 1918) rfl dL_law_1913 (by decide) (fun _ => ?_) (fun c9 => absurd rfl c9)
  refine zj_iload6 (n := 1920) rfl dL_law_1918 ?_
  refine zj_ifN_ne (n := 1923) (tgt := 1935) rfl dL_law_1920 (by decide) (by omega) (fun c1920 => ?_) (fun c1920 => ?_)
  · refine zj_goto (tgt := 3048) dL_law_1935 (by decide) ?_
    refine zj_keepG [true, true, true, true, true, true, false, false, false, false] ?_
    exact h M2 (skeep (a_recover S.1.1 (xs (i + 1))).1 (vst S.1.1 (xn (xs (i + 1))) 0) S.1.1 S.1.2.1 S.1.2.2, S.2) ⟨hc2, hI2, hP.keep _ (fun q => zp_recover hP.1 hP.2.1 q)⟩
  · refine zj_aload3 (n := 1924) rfl dL_law_1923 ?_
    refine zj_iconstN_0 (n := 1925) rfl dL_law_1924 ?_
    refine zj_laloadW (x := (a_recover S.1.1 (xs (i + 1))).2.toInt64) (n := 1926) rfl dL_law_1925 (by decide) rfl (by decide) (hv2 (by omega)) ?_
    refine zj_iload7 (n := 1928) rfl dL_law_1926 ?_
    refine zj_i2l (n := 1929) rfl dL_law_1928 ?_
    refine zj_lcmpE (n := 1930) rfl dL_law_1929 ?_
    refine zj_ifN_eq (n := 1933) (tgt := 1935) rfl dL_law_1930 (by decide) (by omega) (fun _ => ?_) (fun h => absurd h (by decide))
    refine zj_goto (tgt := 3048) dL_law_1935 (by decide) ?_
    refine zj_keepG [true, true, true, true, true, true, false, false, false, false] ?_
    exact h M2 (skeep (a_recover S.1.1 (xs (i + 1))).1 (vst S.1.1 (xn (xs (i + 1))) 0) S.1.1 S.1.2.1 S.1.2.2, S.2) ⟨hc2, hI2, hP.keep _ (fun q => zp_recover hP.1 hP.2.1 q)⟩
theorem z_case34 {L i A B : Nat} {xs : Nat → Int32} {S : zLS} {Q : Option Value → zM → Prop} {X : String → zM → Prop} {M : zM} (hL : L ≤ 3072) (hi : i + 6 ≤ L) (hI : zI M S) (h : ∀ M' S', zI M' S' → zJG (zGL L xs) yL_law cL_law 10 (some .boolean) room_1 Q X A B 3048 [some (.ref 800), some (.ref 99), some (.ref 118), some (.ref 131), some (.ref 132), some (.int (nI i)), none, none, none, none] [] M') : zJG (zGL L xs) yL_law cL_law 10 (some .boolean) room_1 Q X (A + 2) (B + 12) 1938 [some (.ref 800), some (.ref 99), some (.ref 118), some (.ref 131), some (.ref 132), some (.int (nI i)), none, none, none, none] [] M := by
  have hP := hI.2.2
  have hk9 : ∀ b, (a_drain S.1.1 (xs (i + 1)) b).1 ≤ 3 := fun b => ck_a_drain
  refine zj_aload1 (n := 1939) rfl dL_law_1938 ?_
  refine zj_aload0 (n := 1940) rfl dL_law_1939 ?_
  refine zj_iload5 (n := 1942) rfl dL_law_1940 ?_
  refine zj_iconstN_1 (n := 1943) rfl dL_law_1942 ?_
  refine zj_iaddN (n := 1944) rfl dL_law_1943 ?_
  refine zj_sldN hL (n := 1945) rfl dL_law_1944 (by omega) ?_
  refine zj_aload0 (n := 1946) rfl dL_law_1945 ?_
  refine zj_iload5 (n := 1948) rfl dL_law_1946 ?_
  refine zj_iconstN_2 (n := 1949) rfl dL_law_1948 ?_
  refine zj_iaddN (n := 1950) rfl dL_law_1949 ?_
  refine zj_sldN hL (n := 1951) rfl dL_law_1950 (by omega) ?_
  refine zj_if_eq (n := 1954) (tgt := 1958) rfl dL_law_1951 (by decide) (fun c1951 => ?_) (fun c1951 => ?_)
  · refine zj_iconstB_0 (n := 1959) rfl dL_law_1958 ?_
    refine zj_aload3 (n := 1960) rfl dL_law_1959 ?_
    refine zj_callLW4 (n := 1963) (a' := A + 0) (b' := B + 0) rfl dL_law_1960 zw_L_273 (by decide) (Nat.le_of_ble_eq_true rfl) (by show 2 + (A + 0) ≤ A + 2; omega) (by show 12 + (B + 0) ≤ B + 12; omega) (Nat.le_of_ble_eq_true rfl) (jL_drain (b := false) hI.1 hP (fun M1 hF1 hI1 hv1 => ?_))
    have hm := hI.2.1.fr hF1
    refine zj_istore6 (n := 1965) rfl dL_law_1963 rfl (Nat.le_of_ble_eq_true rfl) ?_
    refine zj_aload2 (n := 1966) rfl dL_law_1965 ?_
    refine zj_aload0 (n := 1967) rfl dL_law_1966 ?_
    refine zj_iload5 (n := 1969) rfl dL_law_1967 ?_
    refine zj_iconstN_1 (n := 1970) rfl dL_law_1969 ?_
    refine zj_iaddN (n := 1971) rfl dL_law_1970 ?_
    refine zj_sldN hL (n := 1972) rfl dL_law_1971 (by omega) ?_
    refine zj_aload0 (n := 1973) rfl dL_law_1972 ?_
    refine zj_iload5 (n := 1975) rfl dL_law_1973 ?_
    refine zj_iconstN_2 (n := 1976) rfl dL_law_1975 ?_
    refine zj_iaddN (n := 1977) rfl dL_law_1976 ?_
    refine zj_sldN hL (n := 1978) rfl dL_law_1977 (by omega) ?_
    refine zj_if_eq (n := 1981) (tgt := 1985) rfl dL_law_1978 (by decide) (fun _ => ?_) (fun c9 => absurd c1951 c9)
    refine zj_iconstB_0 (n := 1986) rfl dL_law_1985 ?_
    refine zj_callLV2 (n := 1989) (R' := rX10_drain) (a' := A + 0) (b' := B + 0) rfl dL_law_1986 zm_L_276 (by decide) (by decide) rfl (Nat.le_of_ble_eq_true rfl) (by show 0 + (A + 0) ≤ A + 0; omega) (by show 0 + (B + 0) ≤ B + 0; omega) (Nat.le_of_ble_eq_true rfl) (jX10_drain (b := false) hm.1 hP.1 hm.2.1 hm.2.2.1 (fun M2 hm2 ht2 hA2 hU2 => ?_))
    have hI2 : zIm M2 (skeep (a_drain S.1.1 (xs (i + 1)) false).1 (vst S.1.1 (xn (xs (i + 1))) (if false then 2 else 0)) S.1.1 S.1.2.1 S.1.2.2, S.2) := hm.m hm2 hA2 hU2
    have hf2 := hm2.fM
    have hc2 := hI1.frM hf2
    have hv2 := fun q => (congrFun hf2.2.1 0).trans (hv1 q)
    refine zj_istore7 (n := 1991) rfl dL_law_1989 rfl (Nat.le_of_ble_eq_true rfl) ?_
    refine zj_aload2 (n := 1992) rfl dL_law_1991 ?_
    refine zj_callLV0 (n := 1995) (a' := A + 0) (b' := B + 0) rfl dL_law_1992 zm_L_156 (by decide) (by decide) rfl (Nat.le_of_ble_eq_true rfl) (by show 0 + (A + 0) ≤ A + 0; omega) (by show 0 + (B + 0) ≤ B + 0; omega) (Nat.le_of_ble_eq_true rfl) (jX10_thrownN ht2 ?_)
    refine zj_iload6 (n := 1997) rfl dL_law_1995 ?_
    refine zj_icmp_eq (n := 2000) (tgt := 2002) rfl dL_law_1997 (by decide) (fun _ => ?_) (fun c9 => absurd rfl c9)
    refine zj_iload6 (n := 2004) rfl dL_law_2002 ?_
    refine zj_ifN_ne (n := 2007) (tgt := 2019) rfl dL_law_2004 (by decide) (by have h1 := hk9 true; have h2 := hk9 false; omega) (fun c2004 => ?_) (fun c2004 => ?_)
    · refine zj_goto (tgt := 3048) dL_law_2019 (by decide) ?_
      refine zj_keepG [true, true, true, true, true, true, false, false, false, false] ?_
      exact h M2 (skeep (a_drain S.1.1 (xs (i + 1)) false).1 (vst S.1.1 (xn (xs (i + 1))) (if false then 2 else 0)) S.1.1 S.1.2.1 S.1.2.2, S.2) ⟨hc2, hI2, hP.keep _ (fun q => zp_drain hP.1 hP.2.1 q)⟩
    · refine zj_aload3 (n := 2008) rfl dL_law_2007 ?_
      refine zj_iconstN_0 (n := 2009) rfl dL_law_2008 ?_
      refine zj_laloadW (x := (a_drain S.1.1 (xs (i + 1)) false).2.toInt64) (n := 2010) rfl dL_law_2009 (by decide) rfl (by decide) (hv2 (by omega)) ?_
      refine zj_iload7 (n := 2012) rfl dL_law_2010 ?_
      refine zj_i2l (n := 2013) rfl dL_law_2012 ?_
      refine zj_lcmpE (n := 2014) rfl dL_law_2013 ?_
      refine zj_ifN_eq (n := 2017) (tgt := 2019) rfl dL_law_2014 (by decide) (by omega) (fun _ => ?_) (fun h => absurd h (by decide))
      refine zj_goto (tgt := 3048) dL_law_2019 (by decide) ?_
      refine zj_keepG [true, true, true, true, true, true, false, false, false, false] ?_
      exact h M2 (skeep (a_drain S.1.1 (xs (i + 1)) false).1 (vst S.1.1 (xn (xs (i + 1))) (if false then 2 else 0)) S.1.1 S.1.2.1 S.1.2.2, S.2) ⟨hc2, hI2, hP.keep _ (fun q => zp_drain hP.1 hP.2.1 q)⟩
  · refine zj_iconstB_1 (n := 1955) rfl dL_law_1954 ?_
    refine zj_goto (tgt := 1959) dL_law_1955 (by decide) ?_
    refine zj_aload3 (n := 1960) rfl dL_law_1959 ?_
    refine zj_callLW4 (n := 1963) (a' := A + 0) (b' := B + 0) rfl dL_law_1960 zw_L_273 (by decide) (Nat.le_of_ble_eq_true rfl) (by show 2 + (A + 0) ≤ A + 2; omega) (by show 12 + (B + 0) ≤ B + 12; omega) (Nat.le_of_ble_eq_true rfl) (jL_drain (b := true) hI.1 hP (fun M1 hF1 hI1 hv1 => ?_))
    have hm := hI.2.1.fr hF1
    refine zj_istore6 (n := 1965) rfl dL_law_1963 rfl (Nat.le_of_ble_eq_true rfl) ?_
    refine zj_aload2 (n := 1966) rfl dL_law_1965 ?_
    refine zj_aload0 (n := 1967) rfl dL_law_1966 ?_
    refine zj_iload5 (n := 1969) rfl dL_law_1967 ?_
    refine zj_iconstN_1 (n := 1970) rfl dL_law_1969 ?_
    refine zj_iaddN (n := 1971) rfl dL_law_1970 ?_
    refine zj_sldN hL (n := 1972) rfl dL_law_1971 (by omega) ?_
    refine zj_aload0 (n := 1973) rfl dL_law_1972 ?_
    refine zj_iload5 (n := 1975) rfl dL_law_1973 ?_
    refine zj_iconstN_2 (n := 1976) rfl dL_law_1975 ?_
    refine zj_iaddN (n := 1977) rfl dL_law_1976 ?_
    refine zj_sldN hL (n := 1978) rfl dL_law_1977 (by omega) ?_
    refine zj_if_eq (n := 1981) (tgt := 1985) rfl dL_law_1978 (by decide) (fun c9 => absurd c9 c1951) (fun _ => ?_)
    refine zj_iconstB_1 (n := 1982) rfl dL_law_1981 ?_
    refine zj_goto (tgt := 1986) dL_law_1982 (by decide) ?_
    refine zj_callLV2 (n := 1989) (R' := rX10_drain) (a' := A + 0) (b' := B + 0) rfl dL_law_1986 zm_L_276 (by decide) (by decide) rfl (Nat.le_of_ble_eq_true rfl) (by show 0 + (A + 0) ≤ A + 0; omega) (by show 0 + (B + 0) ≤ B + 0; omega) (Nat.le_of_ble_eq_true rfl) (jX10_drain (b := true) hm.1 hP.1 hm.2.1 hm.2.2.1 (fun M2 hm2 ht2 hA2 hU2 => ?_))
    have hI2 : zIm M2 (skeep (a_drain S.1.1 (xs (i + 1)) true).1 (vst S.1.1 (xn (xs (i + 1))) (if true then 2 else 0)) S.1.1 S.1.2.1 S.1.2.2, S.2) := hm.m hm2 hA2 hU2
    have hf2 := hm2.fM
    have hc2 := hI1.frM hf2
    have hv2 := fun q => (congrFun hf2.2.1 0).trans (hv1 q)
    refine zj_istore7 (n := 1991) rfl dL_law_1989 rfl (Nat.le_of_ble_eq_true rfl) ?_
    refine zj_aload2 (n := 1992) rfl dL_law_1991 ?_
    refine zj_callLV0 (n := 1995) (a' := A + 0) (b' := B + 0) rfl dL_law_1992 zm_L_156 (by decide) (by decide) rfl (Nat.le_of_ble_eq_true rfl) (by show 0 + (A + 0) ≤ A + 0; omega) (by show 0 + (B + 0) ≤ B + 0; omega) (Nat.le_of_ble_eq_true rfl) (jX10_thrownN ht2 ?_)
    refine zj_iload6 (n := 1997) rfl dL_law_1995 ?_
    refine zj_icmp_eq (n := 2000) (tgt := 2002) rfl dL_law_1997 (by decide) (fun _ => ?_) (fun c9 => absurd rfl c9)
    refine zj_iload6 (n := 2004) rfl dL_law_2002 ?_
    refine zj_ifN_ne (n := 2007) (tgt := 2019) rfl dL_law_2004 (by decide) (by have h1 := hk9 true; have h2 := hk9 false; omega) (fun c2004 => ?_) (fun c2004 => ?_)
    · refine zj_goto (tgt := 3048) dL_law_2019 (by decide) ?_
      refine zj_keepG [true, true, true, true, true, true, false, false, false, false] ?_
      exact h M2 (skeep (a_drain S.1.1 (xs (i + 1)) true).1 (vst S.1.1 (xn (xs (i + 1))) (if true then 2 else 0)) S.1.1 S.1.2.1 S.1.2.2, S.2) ⟨hc2, hI2, hP.keep _ (fun q => zp_drain hP.1 hP.2.1 q)⟩
    · refine zj_aload3 (n := 2008) rfl dL_law_2007 ?_
      refine zj_iconstN_0 (n := 2009) rfl dL_law_2008 ?_
      refine zj_laloadW (x := (a_drain S.1.1 (xs (i + 1)) true).2.toInt64) (n := 2010) rfl dL_law_2009 (by decide) rfl (by decide) (hv2 (by omega)) ?_
      refine zj_iload7 (n := 2012) rfl dL_law_2010 ?_
      refine zj_i2l (n := 2013) rfl dL_law_2012 ?_
      refine zj_lcmpE (n := 2014) rfl dL_law_2013 ?_
      refine zj_ifN_eq (n := 2017) (tgt := 2019) rfl dL_law_2014 (by decide) (by omega) (fun _ => ?_) (fun h => absurd h (by decide))
      refine zj_goto (tgt := 3048) dL_law_2019 (by decide) ?_
      refine zj_keepG [true, true, true, true, true, true, false, false, false, false] ?_
      exact h M2 (skeep (a_drain S.1.1 (xs (i + 1)) true).1 (vst S.1.1 (xn (xs (i + 1))) (if true then 2 else 0)) S.1.1 S.1.2.1 S.1.2.2, S.2) ⟨hc2, hI2, hP.keep _ (fun q => zp_drain hP.1 hP.2.1 q)⟩
theorem z_case35 {L i A B : Nat} {xs : Nat → Int32} {S : zLS} {Q : Option Value → zM → Prop} {X : String → zM → Prop} {M : zM} (hL : L ≤ 3072) (hi : i + 6 ≤ L) (hI : zI M S) (h : ∀ M' S', zI M' S' → zJG (zGL L xs) yL_law cL_law 10 (some .boolean) room_1 Q X A B 3048 [some (.ref 800), some (.ref 99), some (.ref 118), some (.ref 131), some (.ref 132), some (.int (nI i)), none, none, none, none] [] M') : zJG (zGL L xs) yL_law cL_law 10 (some .boolean) room_1 Q X (A + 0) (B + 0) 2022 [some (.ref 800), some (.ref 99), some (.ref 118), some (.ref 131), some (.ref 132), some (.int (nI i)), none, none, none, none] [] M := by
  have hP := hI.2.2
  refine zj_aload1 (n := 2023) rfl dL_law_2022 ?_
  refine zj_callLV0 (n := 2026) (a' := A + 0) (b' := B + 0) rfl dL_law_2023 zm_L_277 (by decide) (by decide) rfl (Nat.le_of_ble_eq_true rfl) (by show 0 + (A + 0) ≤ A + 0; omega) (by show 0 + (B + 0) ≤ B + 0; omega) (Nat.le_of_ble_eq_true rfl) (jX9_round hI.1.1 hP.1 hI.1.2.1 (fun q9 M1 hm1 hC1 hU1 => ?_))
  have hF1 := hm1.fC
  have hI1 : zIc M1 (skeep (a_round S.1.1).1 (vround S.1.1) S.1.1 S.1.2.1 S.1.2.2, S.2) := by
    unfold skeep
    rw [if_pos q9]
    exact hI.1.m (u := (_, _, _)) hm1 hC1 hU1
  have hm := hI.2.1.fr hF1
  refine zj_aload2 (n := 2027) rfl dL_law_2026 ?_
  refine zj_callLV0 (n := 2030) (R' := rX10_round) (a' := A + 0) (b' := B + 0) rfl dL_law_2027 zm_L_280 (by decide) (by decide) rfl (Nat.le_of_ble_eq_true rfl) (by show 0 + (A + 0) ≤ A + 0; omega) (by show 0 + (B + 0) ≤ B + 0; omega) (Nat.le_of_ble_eq_true rfl) (jX10_round hm.1 hP.1 hm.2.1 hm.2.2.1 (fun M2 hm2 ht2 hA2 hU2 => ?_))
  have hI2 : zIm M2 (skeep (a_round S.1.1).1 (vround S.1.1) S.1.1 S.1.2.1 S.1.2.2, S.2) := hm.m hm2 hA2 hU2
  have hf2 := hm2.fM
  have hc2 := hI1.frM hf2
  refine zj_icmp_eq (n := 2033) (tgt := 3048) rfl dL_law_2030 (by decide) (fun _ => ?_) (fun c9 => absurd rfl c9)
  refine zj_keepG [true, true, true, true, true, true, false, false, false, false] ?_
  exact h M2 (skeep (a_round S.1.1).1 (vround S.1.1) S.1.1 S.1.2.1 S.1.2.2, S.2) ⟨hc2, hI2, hP.keep _ (fun q => zp_round hP.1 hP.2.1 q)⟩
theorem z_case36 {L i A B : Nat} {xs : Nat → Int32} {S : zLS} {Q : Option Value → zM → Prop} {X : String → zM → Prop} {M : zM} (hL : L ≤ 3072) (hi : i + 6 ≤ L) (hI : zI M S) (h : ∀ M' S', zI M' S' → zJG (zGL L xs) yL_law cL_law 10 (some .boolean) room_1 Q X A B 3048 [some (.ref 800), some (.ref 99), some (.ref 118), some (.ref 131), some (.ref 132), some (.int (nI i)), none, none, none, none] [] M') : zJG (zGL L xs) yL_law cL_law 10 (some .boolean) room_1 Q X (A + 1) (B + 6) 2035 [some (.ref 800), some (.ref 99), some (.ref 118), some (.ref 131), some (.ref 132), some (.int (nI i)), none, none, none, none] [] M := by
  have hP := hI.2.2
  have hk9 : (a_rounds S.1.1 (xs (i + 1))).1 ≤ 3 := ck_a_rounds
  refine zj_aload1 (n := 2036) rfl dL_law_2035 ?_
  refine zj_aload0 (n := 2037) rfl dL_law_2036 ?_
  refine zj_iload5 (n := 2039) rfl dL_law_2037 ?_
  refine zj_iconstN_1 (n := 2040) rfl dL_law_2039 ?_
  refine zj_iaddN (n := 2041) rfl dL_law_2040 ?_
  refine zj_sldN hL (n := 2042) rfl dL_law_2041 (by omega) ?_
  refine zj_aload3 (n := 2043) rfl dL_law_2042 ?_
  refine zj_callLW3 (n := 2046) (a' := A + 0) (b' := B + 0) rfl dL_law_2043 zw_L_281 (by decide) (Nat.le_of_ble_eq_true rfl) (by show 1 + (A + 0) ≤ A + 1; omega) (by show 6 + (B + 0) ≤ B + 6; omega) (Nat.le_of_ble_eq_true rfl) (jL_rounds hI.1 hP (fun M1 hF1 hI1 hv1 => ?_))
  have hm := hI.2.1.fr hF1
  refine zj_istore6 (n := 2048) rfl dL_law_2046 rfl (Nat.le_of_ble_eq_true rfl) ?_
  refine zj_aload2 (n := 2049) rfl dL_law_2048 ?_
  refine zj_aload0 (n := 2050) rfl dL_law_2049 ?_
  refine zj_iload5 (n := 2052) rfl dL_law_2050 ?_
  refine zj_iconstN_1 (n := 2053) rfl dL_law_2052 ?_
  refine zj_iaddN (n := 2054) rfl dL_law_2053 ?_
  refine zj_sldN hL (n := 2055) rfl dL_law_2054 (by omega) ?_
  refine zj_callLV1 (n := 2058) (R' := rX10_rounds) (a' := A + 0) (b' := B + 0) rfl dL_law_2055 zm_L_283 (by decide) (by decide) rfl (Nat.le_of_ble_eq_true rfl) (by show 0 + (A + 0) ≤ A + 0; omega) (by show 0 + (B + 0) ≤ B + 0; omega) (Nat.le_of_ble_eq_true rfl) (jX10_rounds hm.1 hP.1 hm.2.1 hm.2.2.1 (fun M2 hm2 ht2 hA2 hU2 => ?_))
  have hI2 : zIm M2 (skeep (a_rounds S.1.1 (xs (i + 1))).1 (vrs S.1.1 (xn (xs (i + 1)))) S.1.1 S.1.2.1 S.1.2.2, S.2) := hm.m hm2 hA2 hU2
  have hf2 := hm2.fM
  have hc2 := hI1.frM hf2
  have hv2 := fun q => (congrFun hf2.2.1 0).trans (hv1 q)
  refine zj_istore7 (n := 2060) rfl dL_law_2058 rfl (Nat.le_of_ble_eq_true rfl) ?_
  refine zj_aload2 (n := 2061) rfl dL_law_2060 ?_
  refine zj_callLV0 (n := 2064) (a' := A + 0) (b' := B + 0) rfl dL_law_2061 zm_L_156 (by decide) (by decide) rfl (Nat.le_of_ble_eq_true rfl) (by show 0 + (A + 0) ≤ A + 0; omega) (by show 0 + (B + 0) ≤ B + 0; omega) (Nat.le_of_ble_eq_true rfl) (jX10_thrownN ht2 ?_)
  refine zj_iload6 (n := 2066) rfl dL_law_2064 ?_
  refine zj_icmp_eq (n := 2069) (tgt := 2071) rfl dL_law_2066 (by decide) (fun _ => ?_) (fun c9 => absurd rfl c9)
  refine zj_iload6 (n := 2073) rfl dL_law_2071 ?_
  refine zj_ifN_ne (n := 2076) (tgt := 2088) rfl dL_law_2073 (by decide) (by omega) (fun c2073 => ?_) (fun c2073 => ?_)
  · refine zj_goto (tgt := 3048) dL_law_2088 (by decide) ?_
    refine zj_keepG [true, true, true, true, true, true, false, false, false, false] ?_
    exact h M2 (skeep (a_rounds S.1.1 (xs (i + 1))).1 (vrs S.1.1 (xn (xs (i + 1)))) S.1.1 S.1.2.1 S.1.2.2, S.2) ⟨hc2, hI2, hP.keep _ (fun q => zp_rounds hP.1 hP.2.1 q)⟩
  · refine zj_aload3 (n := 2077) rfl dL_law_2076 ?_
    refine zj_iconstN_0 (n := 2078) rfl dL_law_2077 ?_
    refine zj_laloadW (x := (a_rounds S.1.1 (xs (i + 1))).2.toInt64) (n := 2079) rfl dL_law_2078 (by decide) rfl (by decide) (hv2 (by omega)) ?_
    refine zj_iload7 (n := 2081) rfl dL_law_2079 ?_
    refine zj_i2l (n := 2082) rfl dL_law_2081 ?_
    refine zj_lcmpE (n := 2083) rfl dL_law_2082 ?_
    refine zj_ifN_eq (n := 2086) (tgt := 2088) rfl dL_law_2083 (by decide) (by omega) (fun _ => ?_) (fun h => absurd h (by decide))
    refine zj_goto (tgt := 3048) dL_law_2088 (by decide) ?_
    refine zj_keepG [true, true, true, true, true, true, false, false, false, false] ?_
    exact h M2 (skeep (a_rounds S.1.1 (xs (i + 1))).1 (vrs S.1.1 (xn (xs (i + 1)))) S.1.1 S.1.2.1 S.1.2.2, S.2) ⟨hc2, hI2, hP.keep _ (fun q => zp_rounds hP.1 hP.2.1 q)⟩
theorem z_case37 {L i A B : Nat} {xs : Nat → Int32} {S : zLS} {Q : Option Value → zM → Prop} {X : String → zM → Prop} {M : zM} (hL : L ≤ 3072) (hi : i + 6 ≤ L) (hI : zI M S) (h : ∀ M' S', zI M' S' → zJG (zGL L xs) yL_law cL_law 10 (some .boolean) room_1 Q X A B 3048 [some (.ref 800), some (.ref 99), some (.ref 118), some (.ref 131), some (.ref 132), some (.int (nI i)), none, none, none, none] [] M') : zJG (zGL L xs) yL_law cL_law 10 (some .boolean) room_1 Q X (A + 2) (B + 12) 2091 [some (.ref 800), some (.ref 99), some (.ref 118), some (.ref 131), some (.ref 132), some (.int (nI i)), none, none, none, none] [] M := by
  have hP := hI.2.2
  have hk9 : (a_setRisk S.1.1 (xs (i + 1)) (xs (i + 2))).1 ≤ 3 := ck_a_setRisk
  refine zj_aload1 (n := 2092) rfl dL_law_2091 ?_
  refine zj_aload0 (n := 2093) rfl dL_law_2092 ?_
  refine zj_iload5 (n := 2095) rfl dL_law_2093 ?_
  refine zj_iconstN_1 (n := 2096) rfl dL_law_2095 ?_
  refine zj_iaddN (n := 2097) rfl dL_law_2096 ?_
  refine zj_sldN hL (n := 2098) rfl dL_law_2097 (by omega) ?_
  refine zj_aload0 (n := 2099) rfl dL_law_2098 ?_
  refine zj_iload5 (n := 2101) rfl dL_law_2099 ?_
  refine zj_iconstN_2 (n := 2102) rfl dL_law_2101 ?_
  refine zj_iaddN (n := 2103) rfl dL_law_2102 ?_
  refine zj_sldN hL (n := 2104) rfl dL_law_2103 (by omega) ?_
  refine zj_aload3 (n := 2105) rfl dL_law_2104 ?_
  refine zj_callLW4 (n := 2108) (a' := A + 0) (b' := B + 0) rfl dL_law_2105 zw_L_284 (by decide) (Nat.le_of_ble_eq_true rfl) (by show 2 + (A + 0) ≤ A + 2; omega) (by show 12 + (B + 0) ≤ B + 12; omega) (Nat.le_of_ble_eq_true rfl) (jL_setRisk hI.1 hP (fun M1 hF1 hI1 hv1 => ?_))
  have hm := hI.2.1.fr hF1
  refine zj_istore6 (n := 2110) rfl dL_law_2108 rfl (Nat.le_of_ble_eq_true rfl) ?_
  refine zj_aload2 (n := 2111) rfl dL_law_2110 ?_
  refine zj_aload0 (n := 2112) rfl dL_law_2111 ?_
  refine zj_iload5 (n := 2114) rfl dL_law_2112 ?_
  refine zj_iconstN_1 (n := 2115) rfl dL_law_2114 ?_
  refine zj_iaddN (n := 2116) rfl dL_law_2115 ?_
  refine zj_sldN hL (n := 2117) rfl dL_law_2116 (by omega) ?_
  refine zj_aload0 (n := 2118) rfl dL_law_2117 ?_
  refine zj_iload5 (n := 2120) rfl dL_law_2118 ?_
  refine zj_iconstN_2 (n := 2121) rfl dL_law_2120 ?_
  refine zj_iaddN (n := 2122) rfl dL_law_2121 ?_
  refine zj_sldN hL (n := 2123) rfl dL_law_2122 (by omega) ?_
  refine zj_callLV2 (n := 2126) (R' := rX10_setRisk) (a' := A + 0) (b' := B + 0) rfl dL_law_2123 zm_L_286 (by decide) (by decide) rfl (Nat.le_of_ble_eq_true rfl) (by show 0 + (A + 0) ≤ A + 0; omega) (by show 0 + (B + 0) ≤ B + 0; omega) (Nat.le_of_ble_eq_true rfl) (jX10_setRisk hm.1 hP.1 hm.2.1 hm.2.2.1 (fun M2 hm2 ht2 hA2 hU2 => ?_))
  have hI2 : zIm M2 (skeep (a_setRisk S.1.1 (xs (i + 1)) (xs (i + 2))).1 (vset S.1.1 (10 + 12 * xn (xs (i + 1)) + 2) (xn (xs (i + 2)))) S.1.1 S.1.2.1 S.1.2.2, S.2) := hm.m hm2 hA2 hU2
  have hf2 := hm2.fM
  have hc2 := hI1.frM hf2
  have hv2 := fun q => (congrFun hf2.2.1 0).trans (hv1 q)
  refine zj_istore7 (n := 2128) rfl dL_law_2126 rfl (Nat.le_of_ble_eq_true rfl) ?_
  refine zj_aload2 (n := 2129) rfl dL_law_2128 ?_
  refine zj_callLV0 (n := 2132) (a' := A + 0) (b' := B + 0) rfl dL_law_2129 zm_L_156 (by decide) (by decide) rfl (Nat.le_of_ble_eq_true rfl) (by show 0 + (A + 0) ≤ A + 0; omega) (by show 0 + (B + 0) ≤ B + 0; omega) (Nat.le_of_ble_eq_true rfl) (jX10_thrownN ht2 ?_)
  refine zj_iload6 (n := 2134) rfl dL_law_2132 ?_
  refine zj_icmp_eq (n := 2137) (tgt := 2139) rfl dL_law_2134 (by decide) (fun _ => ?_) (fun c9 => absurd rfl c9)
  refine zj_iload6 (n := 2141) rfl dL_law_2139 ?_
  refine zj_ifN_ne (n := 2144) (tgt := 2156) rfl dL_law_2141 (by decide) (by omega) (fun c2141 => ?_) (fun c2141 => ?_)
  · refine zj_goto (tgt := 3048) dL_law_2156 (by decide) ?_
    refine zj_keepG [true, true, true, true, true, true, false, false, false, false] ?_
    exact h M2 (skeep (a_setRisk S.1.1 (xs (i + 1)) (xs (i + 2))).1 (vset S.1.1 (10 + 12 * xn (xs (i + 1)) + 2) (xn (xs (i + 2)))) S.1.1 S.1.2.1 S.1.2.2, S.2) ⟨hc2, hI2, hP.keep _ (fun q => zp_setRisk hP.1 hP.2.1 q)⟩
  · refine zj_aload3 (n := 2145) rfl dL_law_2144 ?_
    refine zj_iconstN_0 (n := 2146) rfl dL_law_2145 ?_
    refine zj_laloadW (x := (a_setRisk S.1.1 (xs (i + 1)) (xs (i + 2))).2.toInt64) (n := 2147) rfl dL_law_2146 (by decide) rfl (by decide) (hv2 (by omega)) ?_
    refine zj_iload7 (n := 2149) rfl dL_law_2147 ?_
    refine zj_i2l (n := 2150) rfl dL_law_2149 ?_
    refine zj_lcmpE (n := 2151) rfl dL_law_2150 ?_
    refine zj_ifN_eq (n := 2154) (tgt := 2156) rfl dL_law_2151 (by decide) (by omega) (fun _ => ?_) (fun h => absurd h (by decide))
    refine zj_goto (tgt := 3048) dL_law_2156 (by decide) ?_
    refine zj_keepG [true, true, true, true, true, true, false, false, false, false] ?_
    exact h M2 (skeep (a_setRisk S.1.1 (xs (i + 1)) (xs (i + 2))).1 (vset S.1.1 (10 + 12 * xn (xs (i + 1)) + 2) (xn (xs (i + 2)))) S.1.1 S.1.2.1 S.1.2.2, S.2) ⟨hc2, hI2, hP.keep _ (fun q => zp_setRisk hP.1 hP.2.1 q)⟩
theorem z_case38 {L i A B : Nat} {xs : Nat → Int32} {S : zLS} {Q : Option Value → zM → Prop} {X : String → zM → Prop} {M : zM} (hL : L ≤ 3072) (hi : i + 6 ≤ L) (hI : zI M S) (h : ∀ M' S', zI M' S' → zJG (zGL L xs) yL_law cL_law 10 (some .boolean) room_1 Q X A B 3048 [some (.ref 800), some (.ref 99), some (.ref 118), some (.ref 131), some (.ref 132), some (.int (nI i)), none, none, none, none] [] M') : zJG (zGL L xs) yL_law cL_law 10 (some .boolean) room_1 Q X (A + 1) (B + 6) 2159 [some (.ref 800), some (.ref 99), some (.ref 118), some (.ref 131), some (.ref 132), some (.int (nI i)), none, none, none, none] [] M := by
  have hP := hI.2.2
  have hk9 : (a_setBandwidth S.1.1 (xs (i + 1))).1 ≤ 3 := ck_a_setBandwidth
  refine zj_aload1 (n := 2160) rfl dL_law_2159 ?_
  refine zj_aload0 (n := 2161) rfl dL_law_2160 ?_
  refine zj_iload5 (n := 2163) rfl dL_law_2161 ?_
  refine zj_iconstN_1 (n := 2164) rfl dL_law_2163 ?_
  refine zj_iaddN (n := 2165) rfl dL_law_2164 ?_
  refine zj_sldN hL (n := 2166) rfl dL_law_2165 (by omega) ?_
  refine zj_aload3 (n := 2167) rfl dL_law_2166 ?_
  refine zj_callLW3 (n := 2170) (a' := A + 0) (b' := B + 0) rfl dL_law_2167 zw_L_287 (by decide) (Nat.le_of_ble_eq_true rfl) (by show 1 + (A + 0) ≤ A + 1; omega) (by show 6 + (B + 0) ≤ B + 6; omega) (Nat.le_of_ble_eq_true rfl) (jL_setBandwidth hI.1 hP (fun M1 hF1 hI1 hv1 => ?_))
  have hm := hI.2.1.fr hF1
  refine zj_istore6 (n := 2172) rfl dL_law_2170 rfl (Nat.le_of_ble_eq_true rfl) ?_
  refine zj_aload2 (n := 2173) rfl dL_law_2172 ?_
  refine zj_aload0 (n := 2174) rfl dL_law_2173 ?_
  refine zj_iload5 (n := 2176) rfl dL_law_2174 ?_
  refine zj_iconstN_1 (n := 2177) rfl dL_law_2176 ?_
  refine zj_iaddN (n := 2178) rfl dL_law_2177 ?_
  refine zj_sldN hL (n := 2179) rfl dL_law_2178 (by omega) ?_
  refine zj_callLV1 (n := 2182) (R' := rX10_setBandwidth) (a' := A + 0) (b' := B + 0) rfl dL_law_2179 zm_L_289 (by decide) (by decide) rfl (Nat.le_of_ble_eq_true rfl) (by show 0 + (A + 0) ≤ A + 0; omega) (by show 0 + (B + 0) ≤ B + 0; omega) (Nat.le_of_ble_eq_true rfl) (jX10_setBandwidth hm.1 hP.1 hm.2.1 hm.2.2.1 (fun M2 hm2 ht2 hA2 hU2 => ?_))
  have hI2 : zIm M2 (skeep (a_setBandwidth S.1.1 (xs (i + 1))).1 (vset S.1.1 0 (xn (xs (i + 1)))) S.1.1 S.1.2.1 S.1.2.2, S.2) := hm.m hm2 hA2 hU2
  have hf2 := hm2.fM
  have hc2 := hI1.frM hf2
  have hv2 := fun q => (congrFun hf2.2.1 0).trans (hv1 q)
  refine zj_istore7 (n := 2184) rfl dL_law_2182 rfl (Nat.le_of_ble_eq_true rfl) ?_
  refine zj_aload2 (n := 2185) rfl dL_law_2184 ?_
  refine zj_callLV0 (n := 2188) (a' := A + 0) (b' := B + 0) rfl dL_law_2185 zm_L_156 (by decide) (by decide) rfl (Nat.le_of_ble_eq_true rfl) (by show 0 + (A + 0) ≤ A + 0; omega) (by show 0 + (B + 0) ≤ B + 0; omega) (Nat.le_of_ble_eq_true rfl) (jX10_thrownN ht2 ?_)
  refine zj_iload6 (n := 2190) rfl dL_law_2188 ?_
  refine zj_icmp_eq (n := 2193) (tgt := 2195) rfl dL_law_2190 (by decide) (fun _ => ?_) (fun c9 => absurd rfl c9)
  refine zj_iload6 (n := 2197) rfl dL_law_2195 ?_
  refine zj_ifN_ne (n := 2200) (tgt := 2212) rfl dL_law_2197 (by decide) (by omega) (fun c2197 => ?_) (fun c2197 => ?_)
  · refine zj_goto (tgt := 3048) dL_law_2212 (by decide) ?_
    refine zj_keepG [true, true, true, true, true, true, false, false, false, false] ?_
    exact h M2 (skeep (a_setBandwidth S.1.1 (xs (i + 1))).1 (vset S.1.1 0 (xn (xs (i + 1)))) S.1.1 S.1.2.1 S.1.2.2, S.2) ⟨hc2, hI2, hP.keep _ (fun q => zp_setBandwidth hP.1 hP.2.1 q)⟩
  · refine zj_aload3 (n := 2201) rfl dL_law_2200 ?_
    refine zj_iconstN_0 (n := 2202) rfl dL_law_2201 ?_
    refine zj_laloadW (x := (a_setBandwidth S.1.1 (xs (i + 1))).2.toInt64) (n := 2203) rfl dL_law_2202 (by decide) rfl (by decide) (hv2 (by omega)) ?_
    refine zj_iload7 (n := 2205) rfl dL_law_2203 ?_
    refine zj_i2l (n := 2206) rfl dL_law_2205 ?_
    refine zj_lcmpE (n := 2207) rfl dL_law_2206 ?_
    refine zj_ifN_eq (n := 2210) (tgt := 2212) rfl dL_law_2207 (by decide) (by omega) (fun _ => ?_) (fun h => absurd h (by decide))
    refine zj_goto (tgt := 3048) dL_law_2212 (by decide) ?_
    refine zj_keepG [true, true, true, true, true, true, false, false, false, false] ?_
    exact h M2 (skeep (a_setBandwidth S.1.1 (xs (i + 1))).1 (vset S.1.1 0 (xn (xs (i + 1)))) S.1.1 S.1.2.1 S.1.2.2, S.2) ⟨hc2, hI2, hP.keep _ (fun q => zp_setBandwidth hP.1 hP.2.1 q)⟩
theorem z_case39 {L i A B : Nat} {xs : Nat → Int32} {S : zLS} {Q : Option Value → zM → Prop} {X : String → zM → Prop} {M : zM} (hL : L ≤ 3072) (hi : i + 6 ≤ L) (hI : zI M S) (h : ∀ M' S', zI M' S' → zJG (zGL L xs) yL_law cL_law 10 (some .boolean) room_1 Q X A B 3048 [some (.ref 800), some (.ref 99), some (.ref 118), some (.ref 131), some (.ref 132), some (.int (nI i)), none, none, none, none] [] M') : zJG (zGL L xs) yL_law cL_law 10 (some .boolean) room_1 Q X (A + 1) (B + 6) 2215 [some (.ref 800), some (.ref 99), some (.ref 118), some (.ref 131), some (.ref 132), some (.int (nI i)), none, none, none, none] [] M := by
  have hP := hI.2.2
  have hk9 : (a_setRule S.1.1 (xs (i + 1))).1 ≤ 3 := ck_a_setRule
  refine zj_aload1 (n := 2216) rfl dL_law_2215 ?_
  refine zj_aload0 (n := 2217) rfl dL_law_2216 ?_
  refine zj_iload5 (n := 2219) rfl dL_law_2217 ?_
  refine zj_iconstN_1 (n := 2220) rfl dL_law_2219 ?_
  refine zj_iaddN (n := 2221) rfl dL_law_2220 ?_
  refine zj_sldN hL (n := 2222) rfl dL_law_2221 (by omega) ?_
  refine zj_aload3 (n := 2223) rfl dL_law_2222 ?_
  refine zj_callLW3 (n := 2226) (a' := A + 0) (b' := B + 0) rfl dL_law_2223 zw_L_290 (by decide) (Nat.le_of_ble_eq_true rfl) (by show 1 + (A + 0) ≤ A + 1; omega) (by show 6 + (B + 0) ≤ B + 6; omega) (Nat.le_of_ble_eq_true rfl) (jL_setRule hI.1 hP (fun M1 hF1 hI1 hv1 => ?_))
  have hm := hI.2.1.fr hF1
  refine zj_istore6 (n := 2228) rfl dL_law_2226 rfl (Nat.le_of_ble_eq_true rfl) ?_
  refine zj_aload2 (n := 2229) rfl dL_law_2228 ?_
  refine zj_aload0 (n := 2230) rfl dL_law_2229 ?_
  refine zj_iload5 (n := 2232) rfl dL_law_2230 ?_
  refine zj_iconstN_1 (n := 2233) rfl dL_law_2232 ?_
  refine zj_iaddN (n := 2234) rfl dL_law_2233 ?_
  refine zj_sldN hL (n := 2235) rfl dL_law_2234 (by omega) ?_
  refine zj_callLV1 (n := 2238) (R' := rX10_setRule) (a' := A + 0) (b' := B + 0) rfl dL_law_2235 zm_L_292 (by decide) (by decide) rfl (Nat.le_of_ble_eq_true rfl) (by show 0 + (A + 0) ≤ A + 0; omega) (by show 0 + (B + 0) ≤ B + 0; omega) (Nat.le_of_ble_eq_true rfl) (jX10_setRule hm.1 hP.1 hm.2.1 hm.2.2.1 (fun M2 hm2 ht2 hA2 hU2 => ?_))
  have hI2 : zIm M2 (skeep (a_setRule S.1.1 (xs (i + 1))).1 (vset S.1.1 3 (xn (xs (i + 1)))) S.1.1 S.1.2.1 S.1.2.2, S.2) := hm.m hm2 hA2 hU2
  have hf2 := hm2.fM
  have hc2 := hI1.frM hf2
  have hv2 := fun q => (congrFun hf2.2.1 0).trans (hv1 q)
  refine zj_istore7 (n := 2240) rfl dL_law_2238 rfl (Nat.le_of_ble_eq_true rfl) ?_
  refine zj_aload2 (n := 2241) rfl dL_law_2240 ?_
  refine zj_callLV0 (n := 2244) (a' := A + 0) (b' := B + 0) rfl dL_law_2241 zm_L_156 (by decide) (by decide) rfl (Nat.le_of_ble_eq_true rfl) (by show 0 + (A + 0) ≤ A + 0; omega) (by show 0 + (B + 0) ≤ B + 0; omega) (Nat.le_of_ble_eq_true rfl) (jX10_thrownN ht2 ?_)
  refine zj_iload6 (n := 2246) rfl dL_law_2244 ?_
  refine zj_icmp_eq (n := 2249) (tgt := 2251) rfl dL_law_2246 (by decide) (fun _ => ?_) (fun c9 => absurd rfl c9)
  refine zj_iload6 (n := 2253) rfl dL_law_2251 ?_
  refine zj_ifN_ne (n := 2256) (tgt := 2268) rfl dL_law_2253 (by decide) (by omega) (fun c2253 => ?_) (fun c2253 => ?_)
  · refine zj_goto (tgt := 3048) dL_law_2268 (by decide) ?_
    refine zj_keepG [true, true, true, true, true, true, false, false, false, false] ?_
    exact h M2 (skeep (a_setRule S.1.1 (xs (i + 1))).1 (vset S.1.1 3 (xn (xs (i + 1)))) S.1.1 S.1.2.1 S.1.2.2, S.2) ⟨hc2, hI2, hP.keep _ (fun q => zp_setRule hP.1 hP.2.1 q)⟩
  · refine zj_aload3 (n := 2257) rfl dL_law_2256 ?_
    refine zj_iconstN_0 (n := 2258) rfl dL_law_2257 ?_
    refine zj_laloadW (x := (a_setRule S.1.1 (xs (i + 1))).2.toInt64) (n := 2259) rfl dL_law_2258 (by decide) rfl (by decide) (hv2 (by omega)) ?_
    refine zj_iload7 (n := 2261) rfl dL_law_2259 ?_
    refine zj_i2l (n := 2262) rfl dL_law_2261 ?_
    refine zj_lcmpE (n := 2263) rfl dL_law_2262 ?_
    refine zj_ifN_eq (n := 2266) (tgt := 2268) rfl dL_law_2263 (by decide) (by omega) (fun _ => ?_) (fun h => absurd h (by decide))
    refine zj_goto (tgt := 3048) dL_law_2268 (by decide) ?_
    refine zj_keepG [true, true, true, true, true, true, false, false, false, false] ?_
    exact h M2 (skeep (a_setRule S.1.1 (xs (i + 1))).1 (vset S.1.1 3 (xn (xs (i + 1)))) S.1.1 S.1.2.1 S.1.2.2, S.2) ⟨hc2, hI2, hP.keep _ (fun q => zp_setRule hP.1 hP.2.1 q)⟩
theorem z_case40 {L i A B : Nat} {xs : Nat → Int32} {S : zLS} {Q : Option Value → zM → Prop} {X : String → zM → Prop} {M : zM} (hL : L ≤ 3072) (hi : i + 6 ≤ L) (hI : zI M S) (h : ∀ M' S', zI M' S' → zJG (zGL L xs) yL_law cL_law 10 (some .boolean) room_1 Q X A B 3048 [some (.ref 800), some (.ref 99), some (.ref 118), some (.ref 131), some (.ref 132), some (.int (nI i)), none, none, none, none] [] M') : zJG (zGL L xs) yL_law cL_law 10 (some .boolean) room_1 Q X (A + 3) (B + 18) 2271 [some (.ref 800), some (.ref 99), some (.ref 118), some (.ref 131), some (.ref 132), some (.int (nI i)), none, none, none, none] [] M := by
  have hP := hI.2.2
  have hk9 : (a_grant S.1.1 (xs (i + 1)) (xs (i + 2))).1 ≤ 3 := ck_a_grant
  refine zj_aload1 (n := 2272) rfl dL_law_2271 ?_
  refine zj_aload0 (n := 2273) rfl dL_law_2272 ?_
  refine zj_iload5 (n := 2275) rfl dL_law_2273 ?_
  refine zj_iconstN_1 (n := 2276) rfl dL_law_2275 ?_
  refine zj_iaddN (n := 2277) rfl dL_law_2276 ?_
  refine zj_sldN hL (n := 2278) rfl dL_law_2277 (by omega) ?_
  refine zj_aload0 (n := 2279) rfl dL_law_2278 ?_
  refine zj_iload5 (n := 2281) rfl dL_law_2279 ?_
  refine zj_iconstN_2 (n := 2282) rfl dL_law_2281 ?_
  refine zj_iaddN (n := 2283) rfl dL_law_2282 ?_
  refine zj_sldN hL (n := 2284) rfl dL_law_2283 (by omega) ?_
  refine zj_aload3 (n := 2285) rfl dL_law_2284 ?_
  refine zj_callLW4 (n := 2288) (a' := A + 0) (b' := B + 0) rfl dL_law_2285 zw_L_293 (by decide) (Nat.le_of_ble_eq_true rfl) (by show 3 + (A + 0) ≤ A + 3; omega) (by show 18 + (B + 0) ≤ B + 18; omega) (Nat.le_of_ble_eq_true rfl) (jL_grant hI.1 hP (fun M1 hF1 hI1 hv1 => ?_))
  have hm := hI.2.1.fr hF1
  refine zj_istore6 (n := 2290) rfl dL_law_2288 rfl (Nat.le_of_ble_eq_true rfl) ?_
  refine zj_aload2 (n := 2291) rfl dL_law_2290 ?_
  refine zj_aload0 (n := 2292) rfl dL_law_2291 ?_
  refine zj_iload5 (n := 2294) rfl dL_law_2292 ?_
  refine zj_iconstN_1 (n := 2295) rfl dL_law_2294 ?_
  refine zj_iaddN (n := 2296) rfl dL_law_2295 ?_
  refine zj_sldN hL (n := 2297) rfl dL_law_2296 (by omega) ?_
  refine zj_aload0 (n := 2298) rfl dL_law_2297 ?_
  refine zj_iload5 (n := 2300) rfl dL_law_2298 ?_
  refine zj_iconstN_2 (n := 2301) rfl dL_law_2300 ?_
  refine zj_iaddN (n := 2302) rfl dL_law_2301 ?_
  refine zj_sldN hL (n := 2303) rfl dL_law_2302 (by omega) ?_
  refine zj_callLV2 (n := 2306) (R' := rX10_grant) (a' := A + 0) (b' := B + 0) rfl dL_law_2303 zm_L_295 (by decide) (by decide) rfl (Nat.le_of_ble_eq_true rfl) (by show 0 + (A + 0) ≤ A + 0; omega) (by show 0 + (B + 0) ≤ B + 0; omega) (Nat.le_of_ble_eq_true rfl) (jX10_grant hm.1 hP.1 hm.2.1 hm.2.2.1 (fun M2 hm2 ht2 hA2 hU2 => ?_))
  have hI2 : zIm M2 (skeep (a_grant S.1.1 (xs (i + 1)) (xs (i + 2))).1 (vset S.1.1 (202 + 11 * xn (xs (i + 1)) + 2) (S.1.1 (202 + 11 * xn (xs (i + 1)) + 2) + xn (xs (i + 2)))) S.1.1 S.1.2.1 S.1.2.2, S.2) := hm.m hm2 hA2 hU2
  have hf2 := hm2.fM
  have hc2 := hI1.frM hf2
  have hv2 := fun q => (congrFun hf2.2.1 0).trans (hv1 q)
  refine zj_istore7 (n := 2308) rfl dL_law_2306 rfl (Nat.le_of_ble_eq_true rfl) ?_
  refine zj_aload2 (n := 2309) rfl dL_law_2308 ?_
  refine zj_callLV0 (n := 2312) (a' := A + 0) (b' := B + 0) rfl dL_law_2309 zm_L_156 (by decide) (by decide) rfl (Nat.le_of_ble_eq_true rfl) (by show 0 + (A + 0) ≤ A + 0; omega) (by show 0 + (B + 0) ≤ B + 0; omega) (Nat.le_of_ble_eq_true rfl) (jX10_thrownN ht2 ?_)
  refine zj_iload6 (n := 2314) rfl dL_law_2312 ?_
  refine zj_icmp_eq (n := 2317) (tgt := 2319) rfl dL_law_2314 (by decide) (fun _ => ?_) (fun c9 => absurd rfl c9)
  refine zj_iload6 (n := 2321) rfl dL_law_2319 ?_
  refine zj_ifN_ne (n := 2324) (tgt := 2336) rfl dL_law_2321 (by decide) (by omega) (fun c2321 => ?_) (fun c2321 => ?_)
  · refine zj_goto (tgt := 3048) dL_law_2336 (by decide) ?_
    refine zj_keepG [true, true, true, true, true, true, false, false, false, false] ?_
    exact h M2 (skeep (a_grant S.1.1 (xs (i + 1)) (xs (i + 2))).1 (vset S.1.1 (202 + 11 * xn (xs (i + 1)) + 2) (S.1.1 (202 + 11 * xn (xs (i + 1)) + 2) + xn (xs (i + 2)))) S.1.1 S.1.2.1 S.1.2.2, S.2) ⟨hc2, hI2, hP.keep _ (fun q => zp_grant hP.1 hP.2.1 q)⟩
  · refine zj_aload3 (n := 2325) rfl dL_law_2324 ?_
    refine zj_iconstN_0 (n := 2326) rfl dL_law_2325 ?_
    refine zj_laloadW (x := (a_grant S.1.1 (xs (i + 1)) (xs (i + 2))).2.toInt64) (n := 2327) rfl dL_law_2326 (by decide) rfl (by decide) (hv2 (by omega)) ?_
    refine zj_iload7 (n := 2329) rfl dL_law_2327 ?_
    refine zj_i2l (n := 2330) rfl dL_law_2329 ?_
    refine zj_lcmpE (n := 2331) rfl dL_law_2330 ?_
    refine zj_ifN_eq (n := 2334) (tgt := 2336) rfl dL_law_2331 (by decide) (by omega) (fun _ => ?_) (fun h => absurd h (by decide))
    refine zj_goto (tgt := 3048) dL_law_2336 (by decide) ?_
    refine zj_keepG [true, true, true, true, true, true, false, false, false, false] ?_
    exact h M2 (skeep (a_grant S.1.1 (xs (i + 1)) (xs (i + 2))).1 (vset S.1.1 (202 + 11 * xn (xs (i + 1)) + 2) (S.1.1 (202 + 11 * xn (xs (i + 1)) + 2) + xn (xs (i + 2)))) S.1.1 S.1.2.1 S.1.2.2, S.2) ⟨hc2, hI2, hP.keep _ (fun q => zp_grant hP.1 hP.2.1 q)⟩
theorem z_case41 {L i A B : Nat} {xs : Nat → Int32} {S : zLS} {Q : Option Value → zM → Prop} {X : String → zM → Prop} {M : zM} (hL : L ≤ 3072) (hi : i + 6 ≤ L) (hI : zI M S) (h : ∀ M' S', zI M' S' → zJG (zGL L xs) yL_law cL_law 10 (some .boolean) room_1 Q X A B 3048 [some (.ref 800), some (.ref 99), some (.ref 118), some (.ref 131), some (.ref 132), some (.int (nI i)), none, none, none, none] [] M') : zJG (zGL L xs) yL_law cL_law 10 (some .boolean) room_1 Q X (A + 4) (B + 24) 2339 [some (.ref 800), some (.ref 99), some (.ref 118), some (.ref 131), some (.ref 132), some (.int (nI i)), none, none, none, none] [] M := by
  have hP := hI.2.2
  have hk9 : (a_move S.1.1 (xs (i + 1)) (xs (i + 2)) (xs (i + 3))).1 ≤ 3 := ck_a_move
  refine zj_aload1 (n := 2340) rfl dL_law_2339 ?_
  refine zj_aload0 (n := 2341) rfl dL_law_2340 ?_
  refine zj_iload5 (n := 2343) rfl dL_law_2341 ?_
  refine zj_iconstN_1 (n := 2344) rfl dL_law_2343 ?_
  refine zj_iaddN (n := 2345) rfl dL_law_2344 ?_
  refine zj_sldN hL (n := 2346) rfl dL_law_2345 (by omega) ?_
  refine zj_aload0 (n := 2347) rfl dL_law_2346 ?_
  refine zj_iload5 (n := 2349) rfl dL_law_2347 ?_
  refine zj_iconstN_2 (n := 2350) rfl dL_law_2349 ?_
  refine zj_iaddN (n := 2351) rfl dL_law_2350 ?_
  refine zj_sldN hL (n := 2352) rfl dL_law_2351 (by omega) ?_
  refine zj_aload0 (n := 2353) rfl dL_law_2352 ?_
  refine zj_iload5 (n := 2355) rfl dL_law_2353 ?_
  refine zj_iconstN_3 (n := 2356) rfl dL_law_2355 ?_
  refine zj_iaddN (n := 2357) rfl dL_law_2356 ?_
  refine zj_sldN hL (n := 2358) rfl dL_law_2357 (by omega) ?_
  refine zj_aload3 (n := 2359) rfl dL_law_2358 ?_
  refine zj_callLW5 (n := 2362) (a' := A + 0) (b' := B + 0) rfl dL_law_2359 zw_L_296 (by decide) (Nat.le_of_ble_eq_true rfl) (by show 4 + (A + 0) ≤ A + 4; omega) (by show 24 + (B + 0) ≤ B + 24; omega) (Nat.le_of_ble_eq_true rfl) (jL_move hI.1 hP (fun M1 hF1 hI1 hv1 => ?_))
  have hm := hI.2.1.fr hF1
  refine zj_istore6 (n := 2364) rfl dL_law_2362 rfl (Nat.le_of_ble_eq_true rfl) ?_
  refine zj_aload2 (n := 2365) rfl dL_law_2364 ?_
  refine zj_aload0 (n := 2366) rfl dL_law_2365 ?_
  refine zj_iload5 (n := 2368) rfl dL_law_2366 ?_
  refine zj_iconstN_1 (n := 2369) rfl dL_law_2368 ?_
  refine zj_iaddN (n := 2370) rfl dL_law_2369 ?_
  refine zj_sldN hL (n := 2371) rfl dL_law_2370 (by omega) ?_
  refine zj_aload0 (n := 2372) rfl dL_law_2371 ?_
  refine zj_iload5 (n := 2374) rfl dL_law_2372 ?_
  refine zj_iconstN_2 (n := 2375) rfl dL_law_2374 ?_
  refine zj_iaddN (n := 2376) rfl dL_law_2375 ?_
  refine zj_sldN hL (n := 2377) rfl dL_law_2376 (by omega) ?_
  refine zj_aload0 (n := 2378) rfl dL_law_2377 ?_
  refine zj_iload5 (n := 2380) rfl dL_law_2378 ?_
  refine zj_iconstN_3 (n := 2381) rfl dL_law_2380 ?_
  refine zj_iaddN (n := 2382) rfl dL_law_2381 ?_
  refine zj_sldN hL (n := 2383) rfl dL_law_2382 (by omega) ?_
  refine zj_callLV3 (n := 2386) (R' := rX10_move) (a' := A + 0) (b' := B + 0) rfl dL_law_2383 zm_L_299 (by decide) (by decide) rfl (Nat.le_of_ble_eq_true rfl) (by show 0 + (A + 0) ≤ A + 0; omega) (by show 0 + (B + 0) ≤ B + 0; omega) (Nat.le_of_ble_eq_true rfl) (jX10_move hm.1 hP.1 hm.2.1 hm.2.2.1 (fun M2 hm2 ht2 hA2 hU2 => ?_))
  have hI2 : zIm M2 (skeep (a_move S.1.1 (xs (i + 1)) (xs (i + 2)) (xs (i + 3))).1 (vset S.1.1 (268 + 23 * xn (xs (i + 1)) + 7 + xn (xs (i + 2))) (xn (xs (i + 3)))) S.1.1 S.1.2.1 S.1.2.2, S.2) := hm.m hm2 hA2 hU2
  have hf2 := hm2.fM
  have hc2 := hI1.frM hf2
  have hv2 := fun q => (congrFun hf2.2.1 0).trans (hv1 q)
  refine zj_istore7 (n := 2388) rfl dL_law_2386 rfl (Nat.le_of_ble_eq_true rfl) ?_
  refine zj_aload2 (n := 2389) rfl dL_law_2388 ?_
  refine zj_callLV0 (n := 2392) (a' := A + 0) (b' := B + 0) rfl dL_law_2389 zm_L_156 (by decide) (by decide) rfl (Nat.le_of_ble_eq_true rfl) (by show 0 + (A + 0) ≤ A + 0; omega) (by show 0 + (B + 0) ≤ B + 0; omega) (Nat.le_of_ble_eq_true rfl) (jX10_thrownN ht2 ?_)
  refine zj_iload6 (n := 2394) rfl dL_law_2392 ?_
  refine zj_icmp_eq (n := 2397) (tgt := 2399) rfl dL_law_2394 (by decide) (fun _ => ?_) (fun c9 => absurd rfl c9)
  refine zj_iload6 (n := 2401) rfl dL_law_2399 ?_
  refine zj_ifN_ne (n := 2404) (tgt := 2416) rfl dL_law_2401 (by decide) (by omega) (fun c2401 => ?_) (fun c2401 => ?_)
  · refine zj_goto (tgt := 3048) dL_law_2416 (by decide) ?_
    refine zj_keepG [true, true, true, true, true, true, false, false, false, false] ?_
    exact h M2 (skeep (a_move S.1.1 (xs (i + 1)) (xs (i + 2)) (xs (i + 3))).1 (vset S.1.1 (268 + 23 * xn (xs (i + 1)) + 7 + xn (xs (i + 2))) (xn (xs (i + 3)))) S.1.1 S.1.2.1 S.1.2.2, S.2) ⟨hc2, hI2, hP.keep _ (fun q => zp_move hP.1 hP.2.1 q)⟩
  · refine zj_aload3 (n := 2405) rfl dL_law_2404 ?_
    refine zj_iconstN_0 (n := 2406) rfl dL_law_2405 ?_
    refine zj_laloadW (x := (a_move S.1.1 (xs (i + 1)) (xs (i + 2)) (xs (i + 3))).2.toInt64) (n := 2407) rfl dL_law_2406 (by decide) rfl (by decide) (hv2 (by omega)) ?_
    refine zj_iload7 (n := 2409) rfl dL_law_2407 ?_
    refine zj_i2l (n := 2410) rfl dL_law_2409 ?_
    refine zj_lcmpE (n := 2411) rfl dL_law_2410 ?_
    refine zj_ifN_eq (n := 2414) (tgt := 2416) rfl dL_law_2411 (by decide) (by omega) (fun _ => ?_) (fun h => absurd h (by decide))
    refine zj_goto (tgt := 3048) dL_law_2416 (by decide) ?_
    refine zj_keepG [true, true, true, true, true, true, false, false, false, false] ?_
    exact h M2 (skeep (a_move S.1.1 (xs (i + 1)) (xs (i + 2)) (xs (i + 3))).1 (vset S.1.1 (268 + 23 * xn (xs (i + 1)) + 7 + xn (xs (i + 2))) (xn (xs (i + 3)))) S.1.1 S.1.2.1 S.1.2.2, S.2) ⟨hc2, hI2, hP.keep _ (fun q => zp_move hP.1 hP.2.1 q)⟩
theorem z_case42 {L i A B : Nat} {xs : Nat → Int32} {S : zLS} {Q : Option Value → zM → Prop} {X : String → zM → Prop} {M : zM} (hL : L ≤ 3072) (hi : i + 6 ≤ L) (hI : zI M S) (h : ∀ M' S', zI M' S' → zJG (zGL L xs) yL_law cL_law 10 (some .boolean) room_1 Q X A B 3048 [some (.ref 800), some (.ref 99), some (.ref 118), some (.ref 131), some (.ref 132), some (.int (nI i)), none, none, none, none] [] M') : zJG (zGL L xs) yL_law cL_law 10 (some .boolean) room_1 Q X (A + 1) (B + 6) 2419 [some (.ref 800), some (.ref 99), some (.ref 118), some (.ref 131), some (.ref 132), some (.int (nI i)), none, none, none, none] [] M := by
  have hP := hI.2.2
  have hk9 : (a_lostBy S.1.1 (xs (i + 1))).1 ≤ 3 := ck_a_lostBy
  refine zj_aload1 (n := 2420) rfl dL_law_2419 ?_
  refine zj_aload0 (n := 2421) rfl dL_law_2420 ?_
  refine zj_iload5 (n := 2423) rfl dL_law_2421 ?_
  refine zj_iconstN_1 (n := 2424) rfl dL_law_2423 ?_
  refine zj_iaddN (n := 2425) rfl dL_law_2424 ?_
  refine zj_sldN hL (n := 2426) rfl dL_law_2425 (by omega) ?_
  refine zj_aload3 (n := 2427) rfl dL_law_2426 ?_
  refine zj_callLW3 (n := 2430) (a' := A + 0) (b' := B + 0) rfl dL_law_2427 zw_L_300 (by decide) (Nat.le_of_ble_eq_true rfl) (by show 1 + (A + 0) ≤ A + 1; omega) (by show 6 + (B + 0) ≤ B + 6; omega) (Nat.le_of_ble_eq_true rfl) (jL_lostBy hI.1 hP (fun M1 hF1 hI1 hv1 => ?_))
  have hm := hI.2.1.fr hF1
  refine zj_istore6 (n := 2432) rfl dL_law_2430 rfl (Nat.le_of_ble_eq_true rfl) ?_
  refine zj_aload2 (n := 2433) rfl dL_law_2432 ?_
  refine zj_aload0 (n := 2434) rfl dL_law_2433 ?_
  refine zj_iload5 (n := 2436) rfl dL_law_2434 ?_
  refine zj_iconstN_1 (n := 2437) rfl dL_law_2436 ?_
  refine zj_iaddN (n := 2438) rfl dL_law_2437 ?_
  refine zj_sldN hL (n := 2439) rfl dL_law_2438 (by omega) ?_
  refine zj_callLV1 (n := 2442) (R' := rX10_lostBy) (a' := A + 0) (b' := B + 0) rfl dL_law_2439 zm_L_302 (by decide) (by decide) rfl (Nat.le_of_ble_eq_true rfl) (by show 0 + (A + 0) ≤ A + 0; omega) (by show 0 + (B + 0) ≤ B + 0; omega) (Nat.le_of_ble_eq_true rfl) (jX10_lostBy hm.1 hP.1 hm.2.1 (fun M2 hq2 ht2 => ?_))
  have hI2 := hm.q hq2
  have hf2 := hq2.fM
  have hc2 := hI1.frM hf2
  have hv2 := fun q => (congrFun hf2.2.1 0).trans (hv1 q)
  refine zj_istore7 (n := 2444) rfl dL_law_2442 rfl (Nat.le_of_ble_eq_true rfl) ?_
  refine zj_aload2 (n := 2445) rfl dL_law_2444 ?_
  refine zj_callLV0 (n := 2448) (a' := A + 0) (b' := B + 0) rfl dL_law_2445 zm_L_156 (by decide) (by decide) rfl (Nat.le_of_ble_eq_true rfl) (by show 0 + (A + 0) ≤ A + 0; omega) (by show 0 + (B + 0) ≤ B + 0; omega) (Nat.le_of_ble_eq_true rfl) (jX10_thrownN ht2 ?_)
  refine zj_iload6 (n := 2450) rfl dL_law_2448 ?_
  refine zj_icmp_eq (n := 2453) (tgt := 2455) rfl dL_law_2450 (by decide) (fun _ => ?_) (fun c9 => absurd rfl c9)
  refine zj_iload6 (n := 2457) rfl dL_law_2455 ?_
  refine zj_ifN_ne (n := 2460) (tgt := 2472) rfl dL_law_2457 (by decide) (by omega) (fun c2457 => ?_) (fun c2457 => ?_)
  · refine zj_goto (tgt := 3048) dL_law_2472 (by decide) ?_
    refine zj_keepG [true, true, true, true, true, true, false, false, false, false] ?_
    exact h M2 S ⟨hc2, hI2, hP⟩
  · refine zj_aload3 (n := 2461) rfl dL_law_2460 ?_
    refine zj_iconstN_0 (n := 2462) rfl dL_law_2461 ?_
    refine zj_laloadW (x := (a_lostBy S.1.1 (xs (i + 1))).2.toInt64) (n := 2463) rfl dL_law_2462 (by decide) rfl (by decide) (hv2 (by omega)) ?_
    refine zj_iload7 (n := 2465) rfl dL_law_2463 ?_
    refine zj_i2l (n := 2466) rfl dL_law_2465 ?_
    refine zj_lcmpE (n := 2467) rfl dL_law_2466 ?_
    refine zj_ifN_eq (n := 2470) (tgt := 2472) rfl dL_law_2467 (by decide) (by omega) (fun _ => ?_) (fun h => absurd h (by decide))
    refine zj_goto (tgt := 3048) dL_law_2472 (by decide) ?_
    refine zj_keepG [true, true, true, true, true, true, false, false, false, false] ?_
    exact h M2 S ⟨hc2, hI2, hP⟩
theorem z_case43 {L i A B : Nat} {xs : Nat → Int32} {S : zLS} {Q : Option Value → zM → Prop} {X : String → zM → Prop} {M : zM} (hL : L ≤ 3072) (hi : i + 6 ≤ L) (hI : zI M S) (h : ∀ M' S', zI M' S' → zJG (zGL L xs) yL_law cL_law 10 (some .boolean) room_1 Q X A B 3048 [some (.ref 800), some (.ref 99), some (.ref 118), some (.ref 131), some (.ref 132), some (.int (nI i)), none, none, none, none] [] M') : zJG (zGL L xs) yL_law cL_law 10 (some .boolean) room_1 Q X (A + 0) (B + 0) 2475 [some (.ref 800), some (.ref 99), some (.ref 118), some (.ref 131), some (.ref 132), some (.int (nI i)), none, none, none, none] [] M := by
  have hP := hI.2.2
  refine zj_aload1 (n := 2476) rfl dL_law_2475 ?_
  refine zj_callLV0 (n := 2479) (a' := A + 0) (b' := B + 0) rfl dL_law_2476 zm_L_303 (by decide) (by decide) rfl (Nat.le_of_ble_eq_true rfl) (by show 0 + (A + 0) ≤ A + 0; omega) (by show 0 + (B + 0) ≤ B + 0; omega) (Nat.le_of_ble_eq_true rfl) (jX9_fewestFailures hI.1.1 hP.1 (fun _ M1 hq1 => ?_))
  have hF1 := hq1.fC
  have hI1 := hI.1.q hq1
  have hm := hI.2.1.fr hF1
  refine zj_aload2 (n := 2480) rfl dL_law_2479 ?_
  refine zj_callLV0 (n := 2483) (R' := rX10_fewestFailures) (a' := A + 0) (b' := B + 0) rfl dL_law_2480 zm_L_306 (by decide) (by decide) rfl (Nat.le_of_ble_eq_true rfl) (by show 0 + (A + 0) ≤ A + 0; omega) (by show 0 + (B + 0) ≤ B + 0; omega) (Nat.le_of_ble_eq_true rfl) (jX10_fewestFailures hm.1 hP.1 hm.2.1 (fun M2 hq2 ht2 => ?_))
  have hI2 := hm.q hq2
  have hf2 := hq2.fM
  have hc2 := hI1.frM hf2
  refine zj_icmp_eq (n := 2486) (tgt := 3048) rfl dL_law_2483 (by decide) (fun _ => ?_) (fun c9 => absurd rfl c9)
  refine zj_keepG [true, true, true, true, true, true, false, false, false, false] ?_
  exact h M2 S ⟨hc2, hI2, hP⟩
theorem z_case44 {L i A B : Nat} {xs : Nat → Int32} {S : zLS} {Q : Option Value → zM → Prop} {X : String → zM → Prop} {M : zM} (hL : L ≤ 3072) (hi : i + 6 ≤ L) (hI : zI M S) (h : ∀ M' S', zI M' S' → zJG (zGL L xs) yL_law cL_law 10 (some .boolean) room_1 Q X A B 3048 [some (.ref 800), some (.ref 99), some (.ref 118), some (.ref 131), some (.ref 132), some (.int (nI i)), none, none, none, none] [] M') : zJG (zGL L xs) yL_law cL_law 10 (some .boolean) room_1 Q X (A + 0) (B + 0) 2488 [some (.ref 800), some (.ref 99), some (.ref 118), some (.ref 131), some (.ref 132), some (.int (nI i)), none, none, none, none] [] M := by
  have hP := hI.2.2
  refine zj_aload1 (n := 2489) rfl dL_law_2488 ?_
  refine zj_callLV0 (n := 2492) (a' := A + 0) (b' := B + 0) rfl dL_law_2489 zm_L_307 (by decide) (by decide) rfl (Nat.le_of_ble_eq_true rfl) (by show 0 + (A + 0) ≤ A + 0; omega) (by show 0 + (B + 0) ≤ B + 0; omega) (Nat.le_of_ble_eq_true rfl) (jX9_fewestFailuresSet hI.1.1 hP.1 (fun _ M1 hq1 => ?_))
  have hF1 := hq1.fC
  have hI1 := hI.1.q hq1
  have hm := hI.2.1.fr hF1
  refine zj_aload2 (n := 2493) rfl dL_law_2492 ?_
  refine zj_callLV0 (n := 2496) (R' := rX10_fewestFailuresSet) (a' := A + 0) (b' := B + 0) rfl dL_law_2493 zm_L_310 (by decide) (by decide) rfl (Nat.le_of_ble_eq_true rfl) (by show 0 + (A + 0) ≤ A + 0; omega) (by show 0 + (B + 0) ≤ B + 0; omega) (Nat.le_of_ble_eq_true rfl) (jX10_fewestFailuresSet hm.1 hP.1 hm.2.1 (fun M2 hq2 ht2 => ?_))
  have hI2 := hm.q hq2
  have hf2 := hq2.fM
  have hc2 := hI1.frM hf2
  refine zj_icmp_eq (n := 2499) (tgt := 3048) rfl dL_law_2496 (by decide) (fun _ => ?_) (fun c9 => absurd rfl c9)
  refine zj_keepG [true, true, true, true, true, true, false, false, false, false] ?_
  exact h M2 S ⟨hc2, hI2, hP⟩
theorem z_case45 {L i A B : Nat} {xs : Nat → Int32} {S : zLS} {Q : Option Value → zM → Prop} {X : String → zM → Prop} {M : zM} (hL : L ≤ 3072) (hi : i + 6 ≤ L) (hI : zI M S) (h : ∀ M' S', zI M' S' → zJG (zGL L xs) yL_law cL_law 10 (some .boolean) room_1 Q X A B 3048 [some (.ref 800), some (.ref 99), some (.ref 118), some (.ref 131), some (.ref 132), some (.int (nI i)), none, none, none, none] [] M') : zJG (zGL L xs) yL_law cL_law 10 (some .boolean) room_1 Q X (A + 1) (B + 6) 2501 [some (.ref 800), some (.ref 99), some (.ref 118), some (.ref 131), some (.ref 132), some (.int (nI i)), none, none, none, none] [] M := by
  have hP := hI.2.2
  have hk9 : (a_toRepair S.1.1 (xs (i + 1))).1 ≤ 3 := ck_a_toRepair
  refine zj_aload1 (n := 2502) rfl dL_law_2501 ?_
  refine zj_aload0 (n := 2503) rfl dL_law_2502 ?_
  refine zj_iload5 (n := 2505) rfl dL_law_2503 ?_
  refine zj_iconstN_1 (n := 2506) rfl dL_law_2505 ?_
  refine zj_iaddN (n := 2507) rfl dL_law_2506 ?_
  refine zj_sldN hL (n := 2508) rfl dL_law_2507 (by omega) ?_
  refine zj_aload3 (n := 2509) rfl dL_law_2508 ?_
  refine zj_callLW3 (n := 2512) (a' := A + 0) (b' := B + 0) rfl dL_law_2509 zw_L_311 (by decide) (Nat.le_of_ble_eq_true rfl) (by show 1 + (A + 0) ≤ A + 1; omega) (by show 6 + (B + 0) ≤ B + 6; omega) (Nat.le_of_ble_eq_true rfl) (jL_roundsToRepair hI.1 hP (fun M1 hF1 hI1 hv1 => ?_))
  have hm := hI.2.1.fr hF1
  refine zj_istore6 (n := 2514) rfl dL_law_2512 rfl (Nat.le_of_ble_eq_true rfl) ?_
  refine zj_aload2 (n := 2515) rfl dL_law_2514 ?_
  refine zj_aload0 (n := 2516) rfl dL_law_2515 ?_
  refine zj_iload5 (n := 2518) rfl dL_law_2516 ?_
  refine zj_iconstN_1 (n := 2519) rfl dL_law_2518 ?_
  refine zj_iaddN (n := 2520) rfl dL_law_2519 ?_
  refine zj_sldN hL (n := 2521) rfl dL_law_2520 (by omega) ?_
  refine zj_callLV1 (n := 2524) (R' := rX10_roundsToRepair) (a' := A + 0) (b' := B + 0) rfl dL_law_2521 zm_L_313 (by decide) (by decide) rfl (Nat.le_of_ble_eq_true rfl) (by show 0 + (A + 0) ≤ A + 0; omega) (by show 0 + (B + 0) ≤ B + 0; omega) (Nat.le_of_ble_eq_true rfl) (jX10_roundsToRepair hm.1 hP.1 hm.2.1 (fun M2 hq2 ht2 => ?_))
  have hI2 := hm.q hq2
  have hf2 := hq2.fM
  have hc2 := hI1.frM hf2
  have hv2 := fun q => (congrFun hf2.2.1 0).trans (hv1 q)
  refine zj_istore7 (n := 2526) rfl dL_law_2524 rfl (Nat.le_of_ble_eq_true rfl) ?_
  refine zj_aload2 (n := 2527) rfl dL_law_2526 ?_
  refine zj_callLV0 (n := 2530) (a' := A + 0) (b' := B + 0) rfl dL_law_2527 zm_L_156 (by decide) (by decide) rfl (Nat.le_of_ble_eq_true rfl) (by show 0 + (A + 0) ≤ A + 0; omega) (by show 0 + (B + 0) ≤ B + 0; omega) (Nat.le_of_ble_eq_true rfl) (jX10_thrownN ht2 ?_)
  refine zj_iload6 (n := 2532) rfl dL_law_2530 ?_
  refine zj_icmp_eq (n := 2535) (tgt := 2537) rfl dL_law_2532 (by decide) (fun _ => ?_) (fun c9 => absurd rfl c9)
  refine zj_iload6 (n := 2539) rfl dL_law_2537 ?_
  refine zj_ifN_ne (n := 2542) (tgt := 2554) rfl dL_law_2539 (by decide) (by omega) (fun c2539 => ?_) (fun c2539 => ?_)
  · refine zj_goto (tgt := 3048) dL_law_2554 (by decide) ?_
    refine zj_keepG [true, true, true, true, true, true, false, false, false, false] ?_
    exact h M2 S ⟨hc2, hI2, hP⟩
  · refine zj_aload3 (n := 2543) rfl dL_law_2542 ?_
    refine zj_iconstN_0 (n := 2544) rfl dL_law_2543 ?_
    refine zj_laloadW (x := (a_toRepair S.1.1 (xs (i + 1))).2.toInt64) (n := 2545) rfl dL_law_2544 (by decide) rfl (by decide) (hv2 (by omega)) ?_
    refine zj_iload7 (n := 2547) rfl dL_law_2545 ?_
    refine zj_i2l (n := 2548) rfl dL_law_2547 ?_
    refine zj_lcmpE (n := 2549) rfl dL_law_2548 ?_
    refine zj_ifN_eq (n := 2552) (tgt := 2554) rfl dL_law_2549 (by decide) (by omega) (fun _ => ?_) (fun h => absurd h (by decide))
    refine zj_goto (tgt := 3048) dL_law_2554 (by decide) ?_
    refine zj_keepG [true, true, true, true, true, true, false, false, false, false] ?_
    exact h M2 S ⟨hc2, hI2, hP⟩
theorem z_case46 {L i A B : Nat} {xs : Nat → Int32} {S : zLS} {Q : Option Value → zM → Prop} {X : String → zM → Prop} {M : zM} (hL : L ≤ 3072) (hi : i + 6 ≤ L) (hI : zI M S) (h : ∀ M' S', zI M' S' → zJG (zGL L xs) yL_law cL_law 10 (some .boolean) room_1 Q X A B 3048 [some (.ref 800), some (.ref 99), some (.ref 118), some (.ref 131), some (.ref 132), some (.int (nI i)), none, none, none, none] [] M') : zJG (zGL L xs) yL_law cL_law 10 (some .boolean) room_1 Q X (A + 0) (B + 0) 2557 [some (.ref 800), some (.ref 99), some (.ref 118), some (.ref 131), some (.ref 132), some (.int (nI i)), none, none, none, none] [] M := by
  have hP := hI.2.2
  refine zj_aload1 (n := 2558) rfl dL_law_2557 ?_
  refine zj_callLV0 (n := 2561) (a' := A + 0) (b' := B + 0) rfl dL_law_2558 zm_L_314 (by decide) (by decide) rfl (Nat.le_of_ble_eq_true rfl) (by show 0 + (A + 0) ≤ A + 0; omega) (by show 0 + (B + 0) ≤ B + 0; omega) (Nat.le_of_ble_eq_true rfl) (jX9_roundsToCalm hI.1.1 hP.1 (fun _ M1 hq1 => ?_))
  have hF1 := hq1.fC
  have hI1 := hI.1.q hq1
  have hm := hI.2.1.fr hF1
  refine zj_aload2 (n := 2562) rfl dL_law_2561 ?_
  refine zj_callLV0 (n := 2565) (R' := rX10_roundsToCalm) (a' := A + 0) (b' := B + 0) rfl dL_law_2562 zm_L_317 (by decide) (by decide) rfl (Nat.le_of_ble_eq_true rfl) (by show 0 + (A + 0) ≤ A + 0; omega) (by show 0 + (B + 0) ≤ B + 0; omega) (Nat.le_of_ble_eq_true rfl) (jX10_roundsToCalm hm.1 hP.1 hm.2.1 (fun M2 hq2 ht2 => ?_))
  have hI2 := hm.q hq2
  have hf2 := hq2.fM
  have hc2 := hI1.frM hf2
  refine zj_icmp_eq (n := 2568) (tgt := 3048) rfl dL_law_2565 (by decide) (fun _ => ?_) (fun c9 => absurd rfl c9)
  refine zj_keepG [true, true, true, true, true, true, false, false, false, false] ?_
  exact h M2 S ⟨hc2, hI2, hP⟩
theorem z_case47 {L i A B : Nat} {xs : Nat → Int32} {S : zLS} {Q : Option Value → zM → Prop} {X : String → zM → Prop} {M : zM} (hL : L ≤ 3072) (hi : i + 6 ≤ L) (hI : zI M S) (h : ∀ M' S', zI M' S' → zJG (zGL L xs) yL_law cL_law 10 (some .boolean) room_1 Q X A B 3048 [some (.ref 800), some (.ref 99), some (.ref 118), some (.ref 131), some (.ref 132), some (.int (nI i)), none, none, none, none] [] M') : zJG (zGL L xs) yL_law cL_law 10 (some .boolean) room_1 Q X (A + 1) (B + 6) 2570 [some (.ref 800), some (.ref 99), some (.ref 118), some (.ref 131), some (.ref 132), some (.int (nI i)), none, none, none, none] [] M := by
  have hP := hI.2.2
  have hk9 : (a_soldIn S.1.1 (xs (i + 1))).1 ≤ 3 := ck_a_soldIn
  refine zj_aload1 (n := 2571) rfl dL_law_2570 ?_
  refine zj_aload0 (n := 2572) rfl dL_law_2571 ?_
  refine zj_iload5 (n := 2574) rfl dL_law_2572 ?_
  refine zj_iconstN_1 (n := 2575) rfl dL_law_2574 ?_
  refine zj_iaddN (n := 2576) rfl dL_law_2575 ?_
  refine zj_sldN hL (n := 2577) rfl dL_law_2576 (by omega) ?_
  refine zj_aload3 (n := 2578) rfl dL_law_2577 ?_
  refine zj_callLW3 (n := 2581) (a' := A + 0) (b' := B + 0) rfl dL_law_2578 zw_L_318 (by decide) (Nat.le_of_ble_eq_true rfl) (by show 1 + (A + 0) ≤ A + 1; omega) (by show 6 + (B + 0) ≤ B + 6; omega) (Nat.le_of_ble_eq_true rfl) (jL_soldIn hI.1 hP (fun M1 hF1 hI1 hv1 => ?_))
  have hm := hI.2.1.fr hF1
  refine zj_istore6 (n := 2583) rfl dL_law_2581 rfl (Nat.le_of_ble_eq_true rfl) ?_
  refine zj_aload2 (n := 2584) rfl dL_law_2583 ?_
  refine zj_aload0 (n := 2585) rfl dL_law_2584 ?_
  refine zj_iload5 (n := 2587) rfl dL_law_2585 ?_
  refine zj_iconstN_1 (n := 2588) rfl dL_law_2587 ?_
  refine zj_iaddN (n := 2589) rfl dL_law_2588 ?_
  refine zj_sldN hL (n := 2590) rfl dL_law_2589 (by omega) ?_
  refine zj_callLV1 (n := 2593) (R' := rX10_soldIn) (a' := A + 0) (b' := B + 0) rfl dL_law_2590 zm_L_320 (by decide) (by decide) rfl (Nat.le_of_ble_eq_true rfl) (by show 0 + (A + 0) ≤ A + 0; omega) (by show 0 + (B + 0) ≤ B + 0; omega) (Nat.le_of_ble_eq_true rfl) (jX10_soldIn hm.1 hP.1 hm.2.1 (fun M2 hq2 ht2 => ?_))
  have hI2 := hm.q hq2
  have hf2 := hq2.fM
  have hc2 := hI1.frM hf2
  have hv2 := fun q => (congrFun hf2.2.1 0).trans (hv1 q)
  refine zj_istore7 (n := 2595) rfl dL_law_2593 rfl (Nat.le_of_ble_eq_true rfl) ?_
  refine zj_aload2 (n := 2596) rfl dL_law_2595 ?_
  refine zj_callLV0 (n := 2599) (a' := A + 0) (b' := B + 0) rfl dL_law_2596 zm_L_156 (by decide) (by decide) rfl (Nat.le_of_ble_eq_true rfl) (by show 0 + (A + 0) ≤ A + 0; omega) (by show 0 + (B + 0) ≤ B + 0; omega) (Nat.le_of_ble_eq_true rfl) (jX10_thrownN ht2 ?_)
  refine zj_iload6 (n := 2601) rfl dL_law_2599 ?_
  refine zj_icmp_eq (n := 2604) (tgt := 2606) rfl dL_law_2601 (by decide) (fun _ => ?_) (fun c9 => absurd rfl c9)
  refine zj_iload6 (n := 2608) rfl dL_law_2606 ?_
  refine zj_ifN_ne (n := 2611) (tgt := 2623) rfl dL_law_2608 (by decide) (by omega) (fun c2608 => ?_) (fun c2608 => ?_)
  · refine zj_goto (tgt := 3048) dL_law_2623 (by decide) ?_
    refine zj_keepG [true, true, true, true, true, true, false, false, false, false] ?_
    exact h M2 S ⟨hc2, hI2, hP⟩
  · refine zj_aload3 (n := 2612) rfl dL_law_2611 ?_
    refine zj_iconstN_0 (n := 2613) rfl dL_law_2612 ?_
    refine zj_laloadW (x := (a_soldIn S.1.1 (xs (i + 1))).2.toInt64) (n := 2614) rfl dL_law_2613 (by decide) rfl (by decide) (hv2 (by omega)) ?_
    refine zj_iload7 (n := 2616) rfl dL_law_2614 ?_
    refine zj_i2l (n := 2617) rfl dL_law_2616 ?_
    refine zj_lcmpE (n := 2618) rfl dL_law_2617 ?_
    refine zj_ifN_eq (n := 2621) (tgt := 2623) rfl dL_law_2618 (by decide) (by omega) (fun _ => ?_) (fun h => absurd h (by decide))
    refine zj_goto (tgt := 3048) dL_law_2623 (by decide) ?_
    refine zj_keepG [true, true, true, true, true, true, false, false, false, false] ?_
    exact h M2 S ⟨hc2, hI2, hP⟩
theorem z_case48 {L i A B : Nat} {xs : Nat → Int32} {S : zLS} {Q : Option Value → zM → Prop} {X : String → zM → Prop} {M : zM} (hL : L ≤ 3072) (hi : i + 6 ≤ L) (hI : zI M S) (h : ∀ M' S', zI M' S' → zJG (zGL L xs) yL_law cL_law 10 (some .boolean) room_1 Q X A B 3048 [some (.ref 800), some (.ref 99), some (.ref 118), some (.ref 131), some (.ref 132), some (.int (nI i)), none, none, none, none] [] M') : zJG (zGL L xs) yL_law cL_law 10 (some .boolean) room_1 Q X (A + 2) (B + 12) 2626 [some (.ref 800), some (.ref 99), some (.ref 118), some (.ref 131), some (.ref 132), some (.int (nI i)), none, none, none, none] [] M := by
  have hP := hI.2.2
  have hk9 : (a_purse S.1.1 (xs (i + 1)) (xs (i + 2))).1 ≤ 3 := ck_a_purse
  refine zj_aload1 (n := 2627) rfl dL_law_2626 ?_
  refine zj_aload0 (n := 2628) rfl dL_law_2627 ?_
  refine zj_iload5 (n := 2630) rfl dL_law_2628 ?_
  refine zj_iconstN_1 (n := 2631) rfl dL_law_2630 ?_
  refine zj_iaddN (n := 2632) rfl dL_law_2631 ?_
  refine zj_sldN hL (n := 2633) rfl dL_law_2632 (by omega) ?_
  refine zj_aload0 (n := 2634) rfl dL_law_2633 ?_
  refine zj_iload5 (n := 2636) rfl dL_law_2634 ?_
  refine zj_iconstN_2 (n := 2637) rfl dL_law_2636 ?_
  refine zj_iaddN (n := 2638) rfl dL_law_2637 ?_
  refine zj_sldN hL (n := 2639) rfl dL_law_2638 (by omega) ?_
  refine zj_aload3 (n := 2640) rfl dL_law_2639 ?_
  refine zj_callLW4 (n := 2643) (a' := A + 0) (b' := B + 0) rfl dL_law_2640 zw_L_321 (by decide) (Nat.le_of_ble_eq_true rfl) (by show 2 + (A + 0) ≤ A + 2; omega) (by show 12 + (B + 0) ≤ B + 12; omega) (Nat.le_of_ble_eq_true rfl) (jL_purseAfter hI.1 hP (fun M1 hF1 hI1 hv1 => ?_))
  have hm := hI.2.1.fr hF1
  refine zj_istore6 (n := 2645) rfl dL_law_2643 rfl (Nat.le_of_ble_eq_true rfl) ?_
  refine zj_aload2 (n := 2646) rfl dL_law_2645 ?_
  refine zj_aload0 (n := 2647) rfl dL_law_2646 ?_
  refine zj_iload5 (n := 2649) rfl dL_law_2647 ?_
  refine zj_iconstN_1 (n := 2650) rfl dL_law_2649 ?_
  refine zj_iaddN (n := 2651) rfl dL_law_2650 ?_
  refine zj_sldN hL (n := 2652) rfl dL_law_2651 (by omega) ?_
  refine zj_aload0 (n := 2653) rfl dL_law_2652 ?_
  refine zj_iload5 (n := 2655) rfl dL_law_2653 ?_
  refine zj_iconstN_2 (n := 2656) rfl dL_law_2655 ?_
  refine zj_iaddN (n := 2657) rfl dL_law_2656 ?_
  refine zj_sldN hL (n := 2658) rfl dL_law_2657 (by omega) ?_
  refine zj_callLV2 (n := 2661) (R' := rX10_purseAfter) (a' := A + 0) (b' := B + 0) rfl dL_law_2658 zm_L_323 (by decide) (by decide) rfl (Nat.le_of_ble_eq_true rfl) (by show 0 + (A + 0) ≤ A + 0; omega) (by show 0 + (B + 0) ≤ B + 0; omega) (Nat.le_of_ble_eq_true rfl) (jX10_purseAfter hm.1 hP.1 hm.2.1 (fun M2 hq2 ht2 => ?_))
  have hI2 := hm.q hq2
  have hf2 := hq2.fM
  have hc2 := hI1.frM hf2
  have hv2 := fun q => (congrFun hf2.2.1 0).trans (hv1 q)
  refine zj_istore7 (n := 2663) rfl dL_law_2661 rfl (Nat.le_of_ble_eq_true rfl) ?_
  refine zj_aload2 (n := 2664) rfl dL_law_2663 ?_
  refine zj_callLV0 (n := 2667) (a' := A + 0) (b' := B + 0) rfl dL_law_2664 zm_L_156 (by decide) (by decide) rfl (Nat.le_of_ble_eq_true rfl) (by show 0 + (A + 0) ≤ A + 0; omega) (by show 0 + (B + 0) ≤ B + 0; omega) (Nat.le_of_ble_eq_true rfl) (jX10_thrownN ht2 ?_)
  refine zj_iload6 (n := 2669) rfl dL_law_2667 ?_
  refine zj_icmp_eq (n := 2672) (tgt := 2674) rfl dL_law_2669 (by decide) (fun _ => ?_) (fun c9 => absurd rfl c9)
  refine zj_iload6 (n := 2676) rfl dL_law_2674 ?_
  refine zj_ifN_ne (n := 2679) (tgt := 2691) rfl dL_law_2676 (by decide) (by omega) (fun c2676 => ?_) (fun c2676 => ?_)
  · refine zj_goto (tgt := 3048) dL_law_2691 (by decide) ?_
    refine zj_keepG [true, true, true, true, true, true, false, false, false, false] ?_
    exact h M2 S ⟨hc2, hI2, hP⟩
  · refine zj_aload3 (n := 2680) rfl dL_law_2679 ?_
    refine zj_iconstN_0 (n := 2681) rfl dL_law_2680 ?_
    refine zj_laloadW (x := (a_purse S.1.1 (xs (i + 1)) (xs (i + 2))).2.toInt64) (n := 2682) rfl dL_law_2681 (by decide) rfl (by decide) (hv2 (by omega)) ?_
    refine zj_iload7 (n := 2684) rfl dL_law_2682 ?_
    refine zj_i2l (n := 2685) rfl dL_law_2684 ?_
    refine zj_lcmpE (n := 2686) rfl dL_law_2685 ?_
    refine zj_ifN_eq (n := 2689) (tgt := 2691) rfl dL_law_2686 (by decide) (by omega) (fun _ => ?_) (fun h => absurd h (by decide))
    refine zj_goto (tgt := 3048) dL_law_2691 (by decide) ?_
    refine zj_keepG [true, true, true, true, true, true, false, false, false, false] ?_
    exact h M2 S ⟨hc2, hI2, hP⟩
theorem z_case49 {L i A B : Nat} {xs : Nat → Int32} {S : zLS} {Q : Option Value → zM → Prop} {X : String → zM → Prop} {M : zM} (hL : L ≤ 3072) (hi : i + 6 ≤ L) (hI : zI M S) (h : ∀ M' S', zI M' S' → zJG (zGL L xs) yL_law cL_law 10 (some .boolean) room_1 Q X A B 3048 [some (.ref 800), some (.ref 99), some (.ref 118), some (.ref 131), some (.ref 132), some (.int (nI i)), none, none, none, none] [] M') : zJG (zGL L xs) yL_law cL_law 10 (some .boolean) room_1 Q X (A + 0) (B + 0) 2694 [some (.ref 800), some (.ref 99), some (.ref 118), some (.ref 131), some (.ref 132), some (.int (nI i)), none, none, none, none] [] M := by
  have hP := hI.2.2
  refine zj_aload1 (n := 2695) rfl dL_law_2694 ?_
  refine zj_callLV0 (n := 2698) (a' := A + 0) (b' := B + 0) rfl dL_law_2695 zm_L_324 (by decide) (by decide) rfl (Nat.le_of_ble_eq_true rfl) (by show 0 + (A + 0) ≤ A + 0; omega) (by show 0 + (B + 0) ≤ B + 0; omega) (Nat.le_of_ble_eq_true rfl) (jX9_paidUntilCalm hI.1.1 hP.1 (fun _ M1 hq1 => ?_))
  have hF1 := hq1.fC
  have hI1 := hI.1.q hq1
  have hm := hI.2.1.fr hF1
  refine zj_aload2 (n := 2699) rfl dL_law_2698 ?_
  refine zj_callLV0 (n := 2702) (R' := rX10_paidUntilCalm) (a' := A + 0) (b' := B + 0) rfl dL_law_2699 zm_L_327 (by decide) (by decide) rfl (Nat.le_of_ble_eq_true rfl) (by show 0 + (A + 0) ≤ A + 0; omega) (by show 0 + (B + 0) ≤ B + 0; omega) (Nat.le_of_ble_eq_true rfl) (jX10_paidUntilCalm hm.1 hP.1 hm.2.1 (fun M2 hq2 ht2 => ?_))
  have hI2 := hm.q hq2
  have hf2 := hq2.fM
  have hc2 := hI1.frM hf2
  refine zj_icmp_eq (n := 2705) (tgt := 3048) rfl dL_law_2702 (by decide) (fun _ => ?_) (fun c9 => absurd rfl c9)
  refine zj_keepG [true, true, true, true, true, true, false, false, false, false] ?_
  exact h M2 S ⟨hc2, hI2, hP⟩
theorem z_case50 {L i A B : Nat} {xs : Nat → Int32} {S : zLS} {Q : Option Value → zM → Prop} {X : String → zM → Prop} {M : zM} (hL : L ≤ 3072) (hi : i + 6 ≤ L) (hI : zI M S) (h : ∀ M' S', zI M' S' → zJG (zGL L xs) yL_law cL_law 10 (some .boolean) room_1 Q X A B 3048 [some (.ref 800), some (.ref 99), some (.ref 118), some (.ref 131), some (.ref 132), some (.int (nI i)), none, none, none, none] [] M') : zJG (zGL L xs) yL_law cL_law 10 (some .boolean) room_1 Q X (A + 0) (B + 0) 2707 [some (.ref 800), some (.ref 99), some (.ref 118), some (.ref 131), some (.ref 132), some (.int (nI i)), none, none, none, none] [] M := by
  have hP := hI.2.2
  refine zj_aload1 (n := 2708) rfl dL_law_2707 ?_
  refine zj_callLV0 (n := 2711) (a' := A + 0) (b' := B + 0) rfl dL_law_2708 zm_L_328 (by decide) (by decide) rfl (Nat.le_of_ble_eq_true rfl) (by show 0 + (A + 0) ≤ A + 0; omega) (by show 0 + (B + 0) ≤ B + 0; omega) (Nat.le_of_ble_eq_true rfl) (jX9_historySize hI.1.1 hP.1 (fun _ M1 hq1 => ?_))
  have hF1 := hq1.fC
  have hI1 := hI.1.q hq1
  have hm := hI.2.1.fr hF1
  refine zj_aload2 (n := 2712) rfl dL_law_2711 ?_
  refine zj_callLV0 (n := 2715) (R' := rX10_historySize) (a' := A + 0) (b' := B + 0) rfl dL_law_2712 zm_L_331 (by decide) (by decide) rfl (Nat.le_of_ble_eq_true rfl) (by show 0 + (A + 0) ≤ A + 0; omega) (by show 0 + (B + 0) ≤ B + 0; omega) (Nat.le_of_ble_eq_true rfl) (jX10_historySize hm.1 hP.1 hm.2.1 (fun M2 hq2 ht2 => ?_))
  have hI2 := hm.q hq2
  have hf2 := hq2.fM
  have hc2 := hI1.frM hf2
  refine zj_icmp_eq (n := 2718) (tgt := 3048) rfl dL_law_2715 (by decide) (fun _ => ?_) (fun c9 => absurd rfl c9)
  refine zj_keepG [true, true, true, true, true, true, false, false, false, false] ?_
  exact h M2 S ⟨hc2, hI2, hP⟩
theorem z_case51 {L i A B : Nat} {xs : Nat → Int32} {S : zLS} {Q : Option Value → zM → Prop} {X : String → zM → Prop} {M : zM} (hL : L ≤ 3072) (hi : i + 6 ≤ L) (hI : zI M S) (h : ∀ M' S', zI M' S' → zJG (zGL L xs) yL_law cL_law 10 (some .boolean) room_1 Q X A B 3048 [some (.ref 800), some (.ref 99), some (.ref 118), some (.ref 131), some (.ref 132), some (.int (nI i)), none, none, none, none] [] M') : zJG (zGL L xs) yL_law cL_law 10 (some .boolean) room_1 Q X (A + 2) (B + 12) 2720 [some (.ref 800), some (.ref 99), some (.ref 118), some (.ref 131), some (.ref 132), some (.int (nI i)), none, none, none, none] [] M := by
  have hP := hI.2.2
  have hk9 : (a_history S.1.1 (xs (i + 1)) (xs (i + 2))).1 ≤ 3 := ck_a_history
  refine zj_aload1 (n := 2721) rfl dL_law_2720 ?_
  refine zj_aload0 (n := 2722) rfl dL_law_2721 ?_
  refine zj_iload5 (n := 2724) rfl dL_law_2722 ?_
  refine zj_iconstN_1 (n := 2725) rfl dL_law_2724 ?_
  refine zj_iaddN (n := 2726) rfl dL_law_2725 ?_
  refine zj_sldN hL (n := 2727) rfl dL_law_2726 (by omega) ?_
  refine zj_aload0 (n := 2728) rfl dL_law_2727 ?_
  refine zj_iload5 (n := 2730) rfl dL_law_2728 ?_
  refine zj_iconstN_2 (n := 2731) rfl dL_law_2730 ?_
  refine zj_iaddN (n := 2732) rfl dL_law_2731 ?_
  refine zj_sldN hL (n := 2733) rfl dL_law_2732 (by omega) ?_
  refine zj_aload3 (n := 2734) rfl dL_law_2733 ?_
  refine zj_callLW4 (n := 2737) (a' := A + 0) (b' := B + 0) rfl dL_law_2734 zw_L_332 (by decide) (Nat.le_of_ble_eq_true rfl) (by show 2 + (A + 0) ≤ A + 2; omega) (by show 12 + (B + 0) ≤ B + 12; omega) (Nat.le_of_ble_eq_true rfl) (jL_history hI.1 hP (fun M1 hF1 hI1 hv1 => ?_))
  have hm := hI.2.1.fr hF1
  refine zj_istore6 (n := 2739) rfl dL_law_2737 rfl (Nat.le_of_ble_eq_true rfl) ?_
  refine zj_aload2 (n := 2740) rfl dL_law_2739 ?_
  refine zj_aload0 (n := 2741) rfl dL_law_2740 ?_
  refine zj_iload5 (n := 2743) rfl dL_law_2741 ?_
  refine zj_iconstN_1 (n := 2744) rfl dL_law_2743 ?_
  refine zj_iaddN (n := 2745) rfl dL_law_2744 ?_
  refine zj_sldN hL (n := 2746) rfl dL_law_2745 (by omega) ?_
  refine zj_aload0 (n := 2747) rfl dL_law_2746 ?_
  refine zj_iload5 (n := 2749) rfl dL_law_2747 ?_
  refine zj_iconstN_2 (n := 2750) rfl dL_law_2749 ?_
  refine zj_iaddN (n := 2751) rfl dL_law_2750 ?_
  refine zj_sldN hL (n := 2752) rfl dL_law_2751 (by omega) ?_
  refine zj_callLV2 (n := 2755) (R' := rX10_history) (a' := A + 0) (b' := B + 0) rfl dL_law_2752 zm_L_334 (by decide) (by decide) rfl (Nat.le_of_ble_eq_true rfl) (by show 0 + (A + 0) ≤ A + 0; omega) (by show 0 + (B + 0) ≤ B + 0; omega) (Nat.le_of_ble_eq_true rfl) (jX10_history hm.1 hP.1 hm.2.1 (fun M2 hq2 ht2 => ?_))
  have hI2 := hm.q hq2
  have hf2 := hq2.fM
  have hc2 := hI1.frM hf2
  have hv2 := fun q => (congrFun hf2.2.1 0).trans (hv1 q)
  refine zj_istore7 (n := 2757) rfl dL_law_2755 rfl (Nat.le_of_ble_eq_true rfl) ?_
  refine zj_aload2 (n := 2758) rfl dL_law_2757 ?_
  refine zj_callLV0 (n := 2761) (a' := A + 0) (b' := B + 0) rfl dL_law_2758 zm_L_156 (by decide) (by decide) rfl (Nat.le_of_ble_eq_true rfl) (by show 0 + (A + 0) ≤ A + 0; omega) (by show 0 + (B + 0) ≤ B + 0; omega) (Nat.le_of_ble_eq_true rfl) (jX10_thrownN ht2 ?_)
  refine zj_iload6 (n := 2763) rfl dL_law_2761 ?_
  refine zj_icmp_eq (n := 2766) (tgt := 2768) rfl dL_law_2763 (by decide) (fun _ => ?_) (fun c9 => absurd rfl c9)
  refine zj_iload6 (n := 2770) rfl dL_law_2768 ?_
  refine zj_ifN_ne (n := 2773) (tgt := 2785) rfl dL_law_2770 (by decide) (by omega) (fun c2770 => ?_) (fun c2770 => ?_)
  · refine zj_goto (tgt := 3048) dL_law_2785 (by decide) ?_
    refine zj_keepG [true, true, true, true, true, true, false, false, false, false] ?_
    exact h M2 S ⟨hc2, hI2, hP⟩
  · refine zj_aload3 (n := 2774) rfl dL_law_2773 ?_
    refine zj_iconstN_0 (n := 2775) rfl dL_law_2774 ?_
    refine zj_laloadW (x := (a_history S.1.1 (xs (i + 1)) (xs (i + 2))).2.toInt64) (n := 2776) rfl dL_law_2775 (by decide) rfl (by decide) (hv2 (by omega)) ?_
    refine zj_iload7 (n := 2778) rfl dL_law_2776 ?_
    refine zj_i2l (n := 2779) rfl dL_law_2778 ?_
    refine zj_lcmpE (n := 2780) rfl dL_law_2779 ?_
    refine zj_ifN_eq (n := 2783) (tgt := 2785) rfl dL_law_2780 (by decide) (by omega) (fun _ => ?_) (fun h => absurd h (by decide))
    refine zj_goto (tgt := 3048) dL_law_2785 (by decide) ?_
    refine zj_keepG [true, true, true, true, true, true, false, false, false, false] ?_
    exact h M2 S ⟨hc2, hI2, hP⟩
theorem z_case52 {L i A B : Nat} {xs : Nat → Int32} {S : zLS} {Q : Option Value → zM → Prop} {X : String → zM → Prop} {M : zM} (hL : L ≤ 3072) (hi : i + 6 ≤ L) (hI : zI M S) (h : ∀ M' S', zI M' S' → zJG (zGL L xs) yL_law cL_law 10 (some .boolean) room_1 Q X A B 3048 [some (.ref 800), some (.ref 99), some (.ref 118), some (.ref 131), some (.ref 132), some (.int (nI i)), none, none, none, none] [] M') : zJG (zGL L xs) yL_law cL_law 10 (some .boolean) room_1 Q X (A + 2) (B + 12) 2788 [some (.ref 800), some (.ref 99), some (.ref 118), some (.ref 131), some (.ref 132), some (.int (nI i)), none, none, none, none] [] M := by
  have hP := hI.2.2
  have hk9 : (a_mean S.1.1 (xs (i + 1))).1 ≤ 3 := ck_a_mean
  refine zj_aload1 (n := 2789) rfl dL_law_2788 ?_
  refine zj_aload0 (n := 2790) rfl dL_law_2789 ?_
  refine zj_iload5 (n := 2792) rfl dL_law_2790 ?_
  refine zj_iconstN_1 (n := 2793) rfl dL_law_2792 ?_
  refine zj_iaddN (n := 2794) rfl dL_law_2793 ?_
  refine zj_sldN hL (n := 2795) rfl dL_law_2794 (by omega) ?_
  refine zj_aload4 (n := 2797) rfl dL_law_2795 ?_
  refine zj_callLW3 (n := 2800) (a' := A + 0) (b' := B + 0) rfl dL_law_2797 zw_L_335 (by decide) (Nat.le_of_ble_eq_true rfl) (by show 2 + (A + 0) ≤ A + 2; omega) (by show 12 + (B + 0) ≤ B + 12; omega) (Nat.le_of_ble_eq_true rfl) (jL_meanPrice hI.1 hP (fun M1 hF1 hI1 hv1 => ?_))
  have hm := hI.2.1.fr hF1
  refine zj_istore6 (n := 2802) rfl dL_law_2800 rfl (Nat.le_of_ble_eq_true rfl) ?_
  refine zj_aload2 (n := 2803) rfl dL_law_2802 ?_
  refine zj_aload0 (n := 2804) rfl dL_law_2803 ?_
  refine zj_iload5 (n := 2806) rfl dL_law_2804 ?_
  refine zj_iconstN_1 (n := 2807) rfl dL_law_2806 ?_
  refine zj_iaddN (n := 2808) rfl dL_law_2807 ?_
  refine zj_sldN hL (n := 2809) rfl dL_law_2808 (by omega) ?_
  refine zj_callLV1 (n := 2812) (R' := rX10_meanPrice) (a' := A + 0) (b' := B + 0) rfl dL_law_2809 zm_L_337 (by decide) (by decide) rfl (Nat.le_of_ble_eq_true rfl) (by show 0 + (A + 0) ≤ A + 0; omega) (by show 0 + (B + 0) ≤ B + 0; omega) (Nat.le_of_ble_eq_true rfl) (jX10_meanPrice hm.1 hP.1 hm.2.1 (fun M2 hq2 ht2 => ?_))
  have hI2 := hm.q hq2
  have hf2 := hq2.fM
  have hc2 := hI1.frM hf2
  have hv2 := fun q => (congrFun (congrFun hf2.2.2 132) 0).trans (hv1 q)
  refine zj_dstore7 (n := 2814) rfl dL_law_2812 rfl (Nat.le_of_ble_eq_true rfl) ?_
  refine zj_aload2 (n := 2815) rfl dL_law_2814 ?_
  refine zj_callLV0 (n := 2818) (a' := A + 0) (b' := B + 0) rfl dL_law_2815 zm_L_156 (by decide) (by decide) rfl (Nat.le_of_ble_eq_true rfl) (by show 0 + (A + 0) ≤ A + 0; omega) (by show 0 + (B + 0) ≤ B + 0; omega) (Nat.le_of_ble_eq_true rfl) (jX10_thrownN ht2 ?_)
  refine zj_iload6 (n := 2820) rfl dL_law_2818 ?_
  refine zj_icmp_eq (n := 2823) (tgt := 2825) rfl dL_law_2820 (by decide) (fun _ => ?_) (fun c9 => absurd rfl c9)
  refine zj_iload6 (n := 2827) rfl dL_law_2825 ?_
  refine zj_ifN_ne (n := 2830) (tgt := 2862) rfl dL_law_2827 (by decide) (by omega) (fun c2827 => ?_) (fun c2827 => ?_)
  · refine zj_goto (tgt := 3048) dL_law_2862 (by decide) ?_
    refine zj_keepG [true, true, true, true, true, true, false, false, false, false] ?_
    exact h M2 S ⟨hc2, hI2, hP⟩
  · refine zj_aload4 (n := 2832) rfl dL_law_2830 ?_
    refine zj_iconstN_0 (n := 2833) rfl dL_law_2832 ?_
    refine zj_daloadW (x := (a_mean S.1.1 (xs (i + 1))).2) (n := 2834) rfl dL_law_2833 (by decide) rfl (by decide) (hv2 (by omega)) ?_
    refine zj_dload7 (n := 2836) rfl dL_law_2834 ?_
    refine zj_dcmp (n := 2837) rfl dL_law_2836 ?_
    refine zj_if_eq (n := 2840) (tgt := 2862) rfl dL_law_2837 (by decide) (fun c2837 => ?_) (fun c2837 => ?_)
    · refine zj_goto (tgt := 3048) dL_law_2862 (by decide) ?_
      refine zj_keepG [true, true, true, true, true, true, false, false, false, false] ?_
      exact h M2 S ⟨hc2, hI2, hP⟩
    · refine zj_aload4 (n := 2842) rfl dL_law_2840 ?_
      refine zj_iconstN_0 (n := 2843) rfl dL_law_2842 ?_
      refine zj_daloadW (x := (a_mean S.1.1 (xs (i + 1))).2) (n := 2844) rfl dL_law_2843 (by decide) rfl (by decide) (hv2 (by omega)) ?_
      refine zj_aload4 (n := 2846) rfl dL_law_2844 ?_
      refine zj_iconstN_0 (n := 2847) rfl dL_law_2846 ?_
      refine zj_daloadW (x := (a_mean S.1.1 (xs (i + 1))).2) (n := 2848) rfl dL_law_2847 (by decide) rfl (by decide) (hv2 (by omega)) ?_
      refine zj_dcmp (n := 2849) rfl dL_law_2848 ?_
      refine zj_if_eq (n := 2852) (tgt := 2860) rfl dL_law_2849 (by decide) (fun c2849 => absurd c2849 c2837) (fun c2849 => ?_)
      refine zj_dload7 (n := 2854) rfl dL_law_2852 ?_
      refine zj_dload7 (n := 2856) rfl dL_law_2854 ?_
      refine zj_dcmp (n := 2857) rfl dL_law_2856 ?_
      refine zj_if_ne (n := 2860) (tgt := 2862) rfl dL_law_2857 (by decide) (fun c2857 => ?_) (fun c2857 => absurd c2857 c2837)
      refine zj_goto (tgt := 3048) dL_law_2862 (by decide) ?_
      refine zj_keepG [true, true, true, true, true, true, false, false, false, false] ?_
      exact h M2 S ⟨hc2, hI2, hP⟩
theorem z_case53 {L i A B : Nat} {xs : Nat → Int32} {S : zLS} {Q : Option Value → zM → Prop} {X : String → zM → Prop} {M : zM} (hL : L ≤ 3072) (hi : i + 6 ≤ L) (hI : zI M S) (h : ∀ M' S', zI M' S' → zJG (zGL L xs) yL_law cL_law 10 (some .boolean) room_1 Q X A B 3048 [some (.ref 800), some (.ref 99), some (.ref 118), some (.ref 131), some (.ref 132), some (.int (nI i)), none, none, none, none] [] M') : zJG (zGL L xs) yL_law cL_law 10 (some .boolean) room_1 Q X (A + 1) (B + 6) 2865 [some (.ref 800), some (.ref 99), some (.ref 118), some (.ref 131), some (.ref 132), some (.int (nI i)), none, none, none, none] [] M := by
  have hP := hI.2.2
  have hk9 : (a_dearest S.1.1).1 ≤ 3 := ck_a_dearest
  refine zj_aload1 (n := 2866) rfl dL_law_2865 ?_
  refine zj_aload3 (n := 2867) rfl dL_law_2866 ?_
  refine zj_callLW2 (n := 2870) (a' := A + 0) (b' := B + 0) rfl dL_law_2867 zw_L_338 (by decide) (Nat.le_of_ble_eq_true rfl) (by show 1 + (A + 0) ≤ A + 1; omega) (by show 6 + (B + 0) ≤ B + 6; omega) (Nat.le_of_ble_eq_true rfl) (jL_dearestRound hI.1 hP (fun M1 hF1 hI1 hv1 => ?_))
  have hm := hI.2.1.fr hF1
  refine zj_istore6 (n := 2872) rfl dL_law_2870 rfl (Nat.le_of_ble_eq_true rfl) ?_
  refine zj_aload2 (n := 2873) rfl dL_law_2872 ?_
  refine zj_callLV0 (n := 2876) (R' := rX10_dearestRound) (a' := A + 0) (b' := B + 0) rfl dL_law_2873 zm_L_341 (by decide) (by decide) rfl (Nat.le_of_ble_eq_true rfl) (by show 0 + (A + 0) ≤ A + 0; omega) (by show 0 + (B + 0) ≤ B + 0; omega) (Nat.le_of_ble_eq_true rfl) (jX10_dearestRound hm.1 hP.1 hm.2.1 (fun M2 hq2 ht2 => ?_))
  have hI2 := hm.q hq2
  have hf2 := hq2.fM
  have hc2 := hI1.frM hf2
  have hv2 := fun q => (congrFun hf2.2.1 0).trans (hv1 q)
  refine zj_istore7 (n := 2878) rfl dL_law_2876 rfl (Nat.le_of_ble_eq_true rfl) ?_
  refine zj_aload2 (n := 2879) rfl dL_law_2878 ?_
  refine zj_callLV0 (n := 2882) (a' := A + 0) (b' := B + 0) rfl dL_law_2879 zm_L_156 (by decide) (by decide) rfl (Nat.le_of_ble_eq_true rfl) (by show 0 + (A + 0) ≤ A + 0; omega) (by show 0 + (B + 0) ≤ B + 0; omega) (Nat.le_of_ble_eq_true rfl) (jX10_thrownN ht2 ?_)
  refine zj_iload6 (n := 2884) rfl dL_law_2882 ?_
  refine zj_icmp_eq (n := 2887) (tgt := 2889) rfl dL_law_2884 (by decide) (fun _ => ?_) (fun c9 => absurd rfl c9)
  refine zj_iload6 (n := 2891) rfl dL_law_2889 ?_
  refine zj_ifN_ne (n := 2894) (tgt := 2906) rfl dL_law_2891 (by decide) (by omega) (fun c2891 => ?_) (fun c2891 => ?_)
  · refine zj_goto (tgt := 3048) dL_law_2906 (by decide) ?_
    refine zj_keepG [true, true, true, true, true, true, false, false, false, false] ?_
    exact h M2 S ⟨hc2, hI2, hP⟩
  · refine zj_aload3 (n := 2895) rfl dL_law_2894 ?_
    refine zj_iconstN_0 (n := 2896) rfl dL_law_2895 ?_
    refine zj_laloadW (x := (a_dearest S.1.1).2.toInt64) (n := 2897) rfl dL_law_2896 (by decide) rfl (by decide) (hv2 (by omega)) ?_
    refine zj_iload7 (n := 2899) rfl dL_law_2897 ?_
    refine zj_i2l (n := 2900) rfl dL_law_2899 ?_
    refine zj_lcmpE (n := 2901) rfl dL_law_2900 ?_
    refine zj_ifN_eq (n := 2904) (tgt := 2906) rfl dL_law_2901 (by decide) (by omega) (fun _ => ?_) (fun h => absurd h (by decide))
    refine zj_goto (tgt := 3048) dL_law_2906 (by decide) ?_
    refine zj_keepG [true, true, true, true, true, true, false, false, false, false] ?_
    exact h M2 S ⟨hc2, hI2, hP⟩
theorem z_case54 {L i A B : Nat} {xs : Nat → Int32} {S : zLS} {Q : Option Value → zM → Prop} {X : String → zM → Prop} {M : zM} (hL : L ≤ 3072) (hi : i + 6 ≤ L) (hI : zI M S) (h : ∀ M' S', zI M' S' → zJG (zGL L xs) yL_law cL_law 10 (some .boolean) room_1 Q X A B 3048 [some (.ref 800), some (.ref 99), some (.ref 118), some (.ref 131), some (.ref 132), some (.int (nI i)), none, none, none, none] [] M') : zJG (zGL L xs) yL_law cL_law 10 (some .boolean) room_1 Q X (A + 0) (B + 0) 2909 [some (.ref 800), some (.ref 99), some (.ref 118), some (.ref 131), some (.ref 132), some (.int (nI i)), none, none, none, none] [] M := by
  have hP := hI.2.2
  refine zj_aload1 (n := 2910) rfl dL_law_2909 ?_
  refine zj_callLV0 (n := 2913) (a' := A + 0) (b' := B + 0) rfl dL_law_2910 zm_L_342 (by decide) (by decide) rfl (Nat.le_of_ble_eq_true rfl) (by show 0 + (A + 0) ≤ A + 0; omega) (by show 0 + (B + 0) ≤ B + 0; omega) (Nat.le_of_ble_eq_true rfl) (jX9_longestRise hI.1.1 hP.1 (fun _ M1 hq1 => ?_))
  have hF1 := hq1.fC
  have hI1 := hI.1.q hq1
  have hm := hI.2.1.fr hF1
  refine zj_aload2 (n := 2914) rfl dL_law_2913 ?_
  refine zj_callLV0 (n := 2917) (R' := rX10_longestRise) (a' := A + 0) (b' := B + 0) rfl dL_law_2914 zm_L_345 (by decide) (by decide) rfl (Nat.le_of_ble_eq_true rfl) (by show 0 + (A + 0) ≤ A + 0; omega) (by show 0 + (B + 0) ≤ B + 0; omega) (Nat.le_of_ble_eq_true rfl) (jX10_longestRise hm.1 hP.1 hm.2.1 (fun M2 hq2 ht2 => ?_))
  have hI2 := hm.q hq2
  have hf2 := hq2.fM
  have hc2 := hI1.frM hf2
  refine zj_icmp_eq (n := 2920) (tgt := 3048) rfl dL_law_2917 (by decide) (fun _ => ?_) (fun c9 => absurd rfl c9)
  refine zj_keepG [true, true, true, true, true, true, false, false, false, false] ?_
  exact h M2 S ⟨hc2, hI2, hP⟩
theorem z_case55 {L i A B : Nat} {xs : Nat → Int32} {S : zLS} {Q : Option Value → zM → Prop} {X : String → zM → Prop} {M : zM} (hL : L ≤ 3072) (hi : i + 6 ≤ L) (hI : zI M S) (h : ∀ M' S', zI M' S' → zJG (zGL L xs) yL_law cL_law 10 (some .boolean) room_1 Q X A B 3048 [some (.ref 800), some (.ref 99), some (.ref 118), some (.ref 131), some (.ref 132), some (.int (nI i)), none, none, none, none] [] M') : zJG (zGL L xs) yL_law cL_law 10 (some .boolean) room_1 Q X (A + 1) (B + 6) 2922 [some (.ref 800), some (.ref 99), some (.ref 118), some (.ref 131), some (.ref 132), some (.int (nI i)), none, none, none, none] [] M := by
  have hP := hI.2.2
  have hk9 : (a_undo S.1.2.1).1 ≤ 3 := ck_a_undo
  refine zj_aload1 (n := 2923) rfl dL_law_2922 ?_
  refine zj_aload3 (n := 2924) rfl dL_law_2923 ?_
  refine zj_callLW2 (n := 2927) (a' := A + 0) (b' := B + 0) rfl dL_law_2924 zw_L_346 (by decide) (Nat.le_of_ble_eq_true rfl) (by show 1 + (A + 0) ≤ A + 1; omega) (by show 6 + (B + 0) ≤ B + 6; omega) (Nat.le_of_ble_eq_true rfl) (jL_undo hI.1 hP (fun M1 hF1 hI1 hv1 => ?_))
  have hm := hI.2.1.fr hF1
  refine zj_istore6 (n := 2929) rfl dL_law_2927 rfl (Nat.le_of_ble_eq_true rfl) ?_
  refine zj_aload2 (n := 2930) rfl dL_law_2929 ?_
  refine zj_callLV0 (n := 2933) (R' := rX10_undo) (a' := A + 0) (b' := B + 0) rfl dL_law_2930 zm_L_348 (by decide) (by decide) rfl (Nat.le_of_ble_eq_true rfl) (by show 0 + (A + 0) ≤ A + 0; omega) (by show 0 + (B + 0) ≤ B + 0; omega) (Nat.le_of_ble_eq_true rfl) (jX10_undo hm.1 hP.1 hm.2.1 hm.2.2.1 (fun M2 hm2 ht2 hA2 hU2 => ?_))
  have hI2 : zIm M2 ((if S.1.2.1 = 0 then (S.1.1, S.1.2.1, S.1.2.2) else (S.1.2.2 (S.1.2.1 - 1), S.1.2.1 - 1, S.1.2.2)), S.2) := hm.m hm2 hA2 hU2
  have hf2 := hm2.fM
  have hc2 := hI1.frM hf2
  have hv2 := fun q => (congrFun hf2.2.1 0).trans (hv1 q)
  refine zj_istore7 (n := 2935) rfl dL_law_2933 rfl (Nat.le_of_ble_eq_true rfl) ?_
  refine zj_aload2 (n := 2936) rfl dL_law_2935 ?_
  refine zj_callLV0 (n := 2939) (a' := A + 0) (b' := B + 0) rfl dL_law_2936 zm_L_156 (by decide) (by decide) rfl (Nat.le_of_ble_eq_true rfl) (by show 0 + (A + 0) ≤ A + 0; omega) (by show 0 + (B + 0) ≤ B + 0; omega) (Nat.le_of_ble_eq_true rfl) (jX10_thrownN ht2 ?_)
  refine zj_iload6 (n := 2941) rfl dL_law_2939 ?_
  refine zj_icmp_eq (n := 2944) (tgt := 2946) rfl dL_law_2941 (by decide) (fun _ => ?_) (fun c9 => absurd rfl c9)
  refine zj_iload6 (n := 2948) rfl dL_law_2946 ?_
  refine zj_ifN_ne (n := 2951) (tgt := 2963) rfl dL_law_2948 (by decide) (by omega) (fun c2948 => ?_) (fun c2948 => ?_)
  · refine zj_goto (tgt := 3048) dL_law_2963 (by decide) ?_
    refine zj_keepG [true, true, true, true, true, true, false, false, false, false] ?_
    exact h M2 ((if S.1.2.1 = 0 then (S.1.1, S.1.2.1, S.1.2.2) else (S.1.2.2 (S.1.2.1 - 1), S.1.2.1 - 1, S.1.2.2)), S.2) ⟨hc2, hI2, zIp.undo hP⟩
  · refine zj_aload3 (n := 2952) rfl dL_law_2951 ?_
    refine zj_iconstN_0 (n := 2953) rfl dL_law_2952 ?_
    refine zj_laloadW (x := (a_undo S.1.2.1).2.toInt64) (n := 2954) rfl dL_law_2953 (by decide) rfl (by decide) (hv2 (by omega)) ?_
    refine zj_iload7 (n := 2956) rfl dL_law_2954 ?_
    refine zj_i2l (n := 2957) rfl dL_law_2956 ?_
    refine zj_lcmpE (n := 2958) rfl dL_law_2957 ?_
    refine zj_ifN_eq (n := 2961) (tgt := 2963) rfl dL_law_2958 (by decide) (by omega) (fun _ => ?_) (fun h => absurd h (by decide))
    refine zj_goto (tgt := 3048) dL_law_2963 (by decide) ?_
    refine zj_keepG [true, true, true, true, true, true, false, false, false, false] ?_
    exact h M2 ((if S.1.2.1 = 0 then (S.1.1, S.1.2.1, S.1.2.2) else (S.1.2.2 (S.1.2.1 - 1), S.1.2.1 - 1, S.1.2.2)), S.2) ⟨hc2, hI2, zIp.undo hP⟩
theorem z_case56 {L i A B : Nat} {xs : Nat → Int32} {S : zLS} {Q : Option Value → zM → Prop} {X : String → zM → Prop} {M : zM} (hL : L ≤ 3072) (hi : i + 6 ≤ L) (hI : zI M S) (h : ∀ M' S', zI M' S' → zJG (zGL L xs) yL_law cL_law 10 (some .boolean) room_1 Q X A B 3048 [some (.ref 800), some (.ref 99), some (.ref 118), some (.ref 131), some (.ref 132), some (.int (nI i)), none, none, none, none] [] M') : zJG (zGL L xs) yL_law cL_law 10 (some .boolean) room_1 Q X (A + 0) (B + 0) 2966 [some (.ref 800), some (.ref 99), some (.ref 118), some (.ref 131), some (.ref 132), some (.int (nI i)), none, none, none, none] [] M := by
  have hP := hI.2.2
  refine zj_aload1 (n := 2967) rfl dL_law_2966 ?_
  refine zj_callLV0 (n := 2970) (a' := A + 0) (b' := B + 0) rfl dL_law_2967 zm_L_349 (by decide) (by decide) rfl (Nat.le_of_ble_eq_true rfl) (by show 0 + (A + 0) ≤ A + 0; omega) (by show 0 + (B + 0) ≤ B + 0; omega) (Nat.le_of_ble_eq_true rfl) (jX9_undoCount hI.1.1 hP.1 hI.1.2.1 (fun M1 hq1 => ?_))
  have hF1 := hq1.fC
  have hI1 := hI.1.q hq1
  have hm := hI.2.1.fr hF1
  refine zj_aload2 (n := 2971) rfl dL_law_2970 ?_
  refine zj_callLV0 (n := 2974) (R' := rX10_undoCount) (a' := A + 0) (b' := B + 0) rfl dL_law_2971 zm_L_352 (by decide) (by decide) rfl (Nat.le_of_ble_eq_true rfl) (by show 0 + (A + 0) ≤ A + 0; omega) (by show 0 + (B + 0) ≤ B + 0; omega) (Nat.le_of_ble_eq_true rfl) (jX10_undoCount (fun M2 hq2 ht2 => ?_))
  have hI2 := hm.q hq2
  have hf2 := hq2.fM
  rw [hm.2.2.1.2.1]
  have hc2 := hI1.frM hf2
  refine zj_icmp_eq (n := 2977) (tgt := 3048) rfl dL_law_2974 (by decide) (fun _ => ?_) (fun c9 => absurd rfl c9)
  refine zj_keepG [true, true, true, true, true, true, false, false, false, false] ?_
  exact h M2 S ⟨hc2, hI2, hP⟩
theorem z_case57 {L i A B : Nat} {xs : Nat → Int32} {S : zLS} {Q : Option Value → zM → Prop} {X : String → zM → Prop} {M : zM} (hL : L ≤ 3072) (hi : i + 6 ≤ L) (hI : zI M S) (h : ∀ M' S', zI M' S' → zJG (zGL L xs) yL_law cL_law 10 (some .boolean) room_1 Q X A B 3048 [some (.ref 800), some (.ref 99), some (.ref 118), some (.ref 131), some (.ref 132), some (.int (nI i)), none, none, none, none] [] M') : zJG (zGL L xs) yL_law cL_law 10 (some .boolean) room_1 Q X (A + 0) (B + 0) 2979 [some (.ref 800), some (.ref 99), some (.ref 118), some (.ref 131), some (.ref 132), some (.int (nI i)), none, none, none, none] [] M := by
  have hP := hI.2.2
  refine zj_aload1 (n := 2980) rfl dL_law_2979 ?_
  refine zj_callLV0 (n := 2983) (a' := A + 0) (b' := B + 0) rfl dL_law_2980 zm_L_353 (by decide) (by decide) rfl (Nat.le_of_ble_eq_true rfl) (by show 0 + (A + 0) ≤ A + 0; omega) (by show 0 + (B + 0) ≤ B + 0; omega) (Nat.le_of_ble_eq_true rfl) (jX9_writeBids hI.1.1 hP.1 hP.2.1 (fun M1 hw1 hC1 hB1 => ?_))
  have hF1 := hw1.fC
  have hI1 : zIc M1 (S.1, S.2.1, wAll S.1.1, S.2.2.2) := hI.1.w hw1 hC1 hB1
  have hm := hI.2.1.fr hF1
  refine zj_aload2 (n := 2984) rfl dL_law_2983 ?_
  refine zj_callLV0 (n := 2987) (R' := rX10_writeBids) (a' := A + 0) (b' := B + 0) rfl dL_law_2984 zm_L_356 (by decide) (by decide) rfl (Nat.le_of_ble_eq_true rfl) (by show 0 + (A + 0) ≤ A + 0; omega) (by show 0 + (B + 0) ≤ B + 0; omega) (Nat.le_of_ble_eq_true rfl) (jX10_writeBids hm.1 hP.1 hP.2.1 hm.2.1 (fun M2 hw2 ht2 hO2 => ?_))
  have hI2 : zIm M2 (S.1, S.2.1, wAll S.1.1, S.2.2.2) := hm.w hw2 hO2
  have hf2 := hw2.fM
  have hc2 := hI1.frM hf2
  refine zj_icmp_eq (n := 2990) (tgt := 3048) rfl dL_law_2987 (by decide) (fun _ => ?_) (fun c9 => absurd rfl c9)
  refine zj_keepG [true, true, true, true, true, true, false, false, false, false] ?_
  exact h M2 (S.1, S.2.1, wAll S.1.1, S.2.2.2) ⟨hc2, hI2, zIp.writeBids hP⟩
theorem z_case58 {L i A B : Nat} {xs : Nat → Int32} {S : zLS} {Q : Option Value → zM → Prop} {X : String → zM → Prop} {M : zM} (hL : L ≤ 3072) (hi : i + 6 ≤ L) (hI : zI M S) (h : ∀ M' S', zI M' S' → zJG (zGL L xs) yL_law cL_law 10 (some .boolean) room_1 Q X A B 3048 [some (.ref 800), some (.ref 99), some (.ref 118), some (.ref 131), some (.ref 132), some (.int (nI i)), none, none, none, none] [] M') : zJG (zGL L xs) yL_law cL_law 10 (some .boolean) room_1 Q X (A + 1) (B + 6) 2992 [some (.ref 800), some (.ref 99), some (.ref 118), some (.ref 131), some (.ref 132), some (.int (nI i)), none, none, none, none] [] M := by
  have hP := hI.2.2
  have hk9 : (a_outB S.2.2.1 (xs (i + 1))).1 ≤ 3 := ck_a_outB
  refine zj_aload1 (n := 2993) rfl dL_law_2992 ?_
  refine zj_aload0 (n := 2994) rfl dL_law_2993 ?_
  refine zj_iload5 (n := 2996) rfl dL_law_2994 ?_
  refine zj_iconstN_1 (n := 2997) rfl dL_law_2996 ?_
  refine zj_iaddN (n := 2998) rfl dL_law_2997 ?_
  refine zj_sldN hL (n := 2999) rfl dL_law_2998 (by omega) ?_
  refine zj_aload3 (n := 3000) rfl dL_law_2999 ?_
  refine zj_callLW3 (n := 3003) (a' := A + 0) (b' := B + 0) rfl dL_law_3000 zw_L_357 (by decide) (Nat.le_of_ble_eq_true rfl) (by show 1 + (A + 0) ≤ A + 1; omega) (by show 6 + (B + 0) ≤ B + 6; omega) (Nat.le_of_ble_eq_true rfl) (jL_outputByte hI.1 hP (fun M1 hF1 hI1 hv1 => ?_))
  have hm := hI.2.1.fr hF1
  refine zj_istore6 (n := 3005) rfl dL_law_3003 rfl (Nat.le_of_ble_eq_true rfl) ?_
  refine zj_aload2 (n := 3006) rfl dL_law_3005 ?_
  refine zj_aload0 (n := 3007) rfl dL_law_3006 ?_
  refine zj_iload5 (n := 3009) rfl dL_law_3007 ?_
  refine zj_iconstN_1 (n := 3010) rfl dL_law_3009 ?_
  refine zj_iaddN (n := 3011) rfl dL_law_3010 ?_
  refine zj_sldN hL (n := 3012) rfl dL_law_3011 (by omega) ?_
  refine zj_callLV1 (n := 3015) (R' := rX10_outputByte) (a' := A + 0) (b' := B + 0) rfl dL_law_3012 zm_L_359 (by decide) (by decide) rfl (Nat.le_of_ble_eq_true rfl) (by show 0 + (A + 0) ≤ A + 0; omega) (by show 0 + (B + 0) ≤ B + 0; omega) (Nat.le_of_ble_eq_true rfl) (jX10_outputByte hm.2.2.2.2.2.2.2 hP.2.2.2.2.2.2.1 hP.2.2.2.2.2.1 (fun M2 hq2 ht2 => ?_))
  have hI2 := hm.q hq2
  have hf2 := hq2.fM
  have hc2 := hI1.frM hf2
  have hv2 := fun q => (congrFun hf2.2.1 0).trans (hv1 q)
  refine zj_istore7 (n := 3017) rfl dL_law_3015 rfl (Nat.le_of_ble_eq_true rfl) ?_
  refine zj_aload2 (n := 3018) rfl dL_law_3017 ?_
  refine zj_callLV0 (n := 3021) (a' := A + 0) (b' := B + 0) rfl dL_law_3018 zm_L_156 (by decide) (by decide) rfl (Nat.le_of_ble_eq_true rfl) (by show 0 + (A + 0) ≤ A + 0; omega) (by show 0 + (B + 0) ≤ B + 0; omega) (Nat.le_of_ble_eq_true rfl) (jX10_thrownN ht2 ?_)
  refine zj_iload6 (n := 3023) rfl dL_law_3021 ?_
  refine zj_icmp_eq (n := 3026) (tgt := 3028) rfl dL_law_3023 (by decide) (fun _ => ?_) (fun c9 => absurd rfl c9)
  refine zj_iload6 (n := 3030) rfl dL_law_3028 ?_
  refine zj_ifN_ne (n := 3033) (tgt := 3045) rfl dL_law_3030 (by decide) (by omega) (fun c3030 => ?_) (fun c3030 => ?_)
  · refine zj_goto (tgt := 3048) dL_law_3045 (by decide) ?_
    refine zj_keepG [true, true, true, true, true, true, false, false, false, false] ?_
    exact h M2 S ⟨hc2, hI2, hP⟩
  · refine zj_aload3 (n := 3034) rfl dL_law_3033 ?_
    refine zj_iconstN_0 (n := 3035) rfl dL_law_3034 ?_
    refine zj_laloadW (x := (a_outB S.2.2.1 (xs (i + 1))).2.toInt64) (n := 3036) rfl dL_law_3035 (by decide) rfl (by decide) (hv2 (by omega)) ?_
    refine zj_iload7 (n := 3038) rfl dL_law_3036 ?_
    refine zj_i2l (n := 3039) rfl dL_law_3038 ?_
    refine zj_lcmpE (n := 3040) rfl dL_law_3039 ?_
    refine zj_ifN_eq (n := 3043) (tgt := 3045) rfl dL_law_3040 (by decide) (by omega) (fun _ => ?_) (fun h => absurd h (by decide))
    refine zj_goto (tgt := 3048) dL_law_3045 (by decide) ?_
    refine zj_keepG [true, true, true, true, true, true, false, false, false, false] ?_
    exact h M2 S ⟨hc2, hI2, hP⟩
