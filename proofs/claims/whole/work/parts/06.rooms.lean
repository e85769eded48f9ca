section Z6
variable {G : zGx} {y : MethodName} {cc : ByteArray} {nL : Nat} {ret : Option FieldType} {R : Room} {Q : Option Value → zM → Prop} {X : String → zM → Prop} {a b pc n : Nat} {l : List (Option Value)} {st : List Value} {M : zM}
theorem zi_1 (x : Int32) : x + Int32.ofInt 1 = x + 1 := rfl
theorem zi_6 (x : Int32) : x + Int32.ofInt 6 = x + 6 := rfl
theorem zi_m1 (x : Int32) : x + Int32.ofInt (-1) = x + (-1) := rfl
theorem zi_m8 (x : Int32) : x + Int32.ofInt (-8) = x + (-8) := rfl
theorem zi_m5 (x : Int32) : x + Int32.ofInt (-5) = x + (-5) := rfl
theorem zin_of {x : Int32} {n : Nat} (h1 : ¬ x < 0) (h2 : ¬ Int32.ofNat n ≤ x) (hn : n < 2 ^ 31) : vp_in x n := by
  intro h
  rcases h with h | h
  · exact h1 h
  · obtain ⟨j, hj, rfl⟩ := nI_of h1
    rw [nI_clamp hj] at h
    exact h2 (nI_le h hj)
theorem zLen_lt (k : Nat) : zLen k < 6000 := by
  unfold zLen
  split
  · split
    · omega
    · split
      · omega
      · split <;> omega
  · rcases Nat.lt_or_ge (k - 99) 34 with q | q
    · have h8 : ∀ q, q < 34 → zLenL.getD q 0 < 6000 := by decide
      exact h8 _ q
    · rw [List.getD_eq_getElem?_getD, List.getElem?_eq_none (by simp [zLenL]; omega)]
      simp
theorem zin_len {x : Int32} {k : Nat} (h1 : ¬ x < 0) (h2 : ¬ Int32.ofNat (zLen k) ≤ x) : vp_in x (zLen k) := zin_of h1 h2 (Nat.lt_trans (zLen_lt k) (by decide))
theorem zQe {v w : Value} {Q : Option Value → zM → Prop} {M : zM} (h : Q (some v) M) (e : v = w) : Q (some w) M := e ▸ h
theorem zQi {v w : Int32} {Q : Option Value → zM → Prop} {M : zM} (h : Q (some (.int v)) M) (e : v = w) : Q (some (.int w)) M := e ▸ h
/-- counting loops -/
def zFor {σ : Type} : Nat → (Nat → σ → σ) → σ → σ
  | 0, _, s => s
  | n + 1, f, s => f n (zFor n f s)
theorem zFor_rule {σ : Type} {P : Nat → σ → Prop} {n : Nat} {f : Nat → σ → σ} {s0 : σ} (hs : ∀ i s, i < n → P (i + 1) (f i s) → P i s) (he : P n (zFor n f s0)) : P 0 s0 := by
  have key : ∀ k, k ≤ n → P (n - k) (zFor (n - k) f s0) := by
    intro k
    induction k with
    | zero => intro _; exact he
    | succ k ih =>
      intro hk
      have h1 := ih (by omega)
      have e : n - k = (n - (k + 1)) + 1 := by omega
      rw [e] at h1
      exact hs (n - (k + 1)) _ (by omega) h1
  have := key n (Nat.le_refl n)
  rwa [Nat.sub_self] at this
theorem zj_callV0 {y' : MethodName} {cc' : ByteArray} {nL' idx k a' b' : Nat} {ret' : Option FieldType} {R' : Room} (hn : pc + 3 = n) (hd : decode cc pc = .ok (.invokevirtual idx, 3)) (S : zSv y.cls idx y' cc' nL' ret' 0) (hR : R'.frames + 1 ≤ R.frames ∧ 8 + (nL' + 11) + R'.locals ≤ R.locals) (hk : k < 133) (hcl : (vwCl[zTy k]?).map (fun q => q.1) = some y'.cls) (hst : zSum st ≤ 8) (ha9 : R'.cells + a' ≤ a) (hb9 : R'.slots + b' ≤ b) (hw : zSum [] + 1 ≤ nL')
    (hJ : zJ y' cc' nL' ret' R' (fun r M' => zJG G y cc nL ret R Q X a' b' n l (zPush r st) M') X R'.cells R'.slots 0 (zEnt nL' [.ref k]) [] M) (hG : zGe G := by exact zG0_e) : zJG G y cc nL ret R Q X a b pc l (.ref k :: st) M := zj_callV (vs := []) hn hd S hR hk hcl hst ha9 hb9 hw hJ hG
theorem zj_callS0 {y' : MethodName} {cc' : ByteArray} {nL' idx a' b' : Nat} {ret' : Option FieldType} {R' : Room} (hn : pc + 3 = n) (hd : decode cc pc = .ok (.invokestatic idx, 3)) (S : zSs y.cls idx y' cc' nL' ret' 0) (hR : R'.frames + 1 ≤ R.frames ∧ 8 + (nL' + 11) + R'.locals ≤ R.locals) (hst : zSum st ≤ 8) (ha9 : R'.cells + a' ≤ a) (hb9 : R'.slots + b' ≤ b) (hw : zSum [] ≤ nL')
    (hJ : zJ y' cc' nL' ret' R' (fun r M' => zJG G y cc nL ret R Q X a' b' n l (zPush r st) M') X R'.cells R'.slots 0 (zEnt nL' []) [] M) (hG : zGe G := by exact zG0_e) : zJG G y cc nL ret R Q X a b pc l (st) M := zj_callS (vs := []) hn hd S hR hst ha9 hb9 hw hJ hG
theorem zj_callV1 {y' : MethodName} {cc' : ByteArray} {nL' idx k a' b' : Nat} {ret' : Option FieldType} {R' : Room} {v1 : Value} (hn : pc + 3 = n) (hd : decode cc pc = .ok (.invokevirtual idx, 3)) (S : zSv y.cls idx y' cc' nL' ret' 1) (hR : R'.frames + 1 ≤ R.frames ∧ 8 + (nL' + 11) + R'.locals ≤ R.locals) (hk : k < 133) (hcl : (vwCl[zTy k]?).map (fun q => q.1) = some y'.cls) (hst : zSum st ≤ 8) (ha9 : R'.cells + a' ≤ a) (hb9 : R'.slots + b' ≤ b) (hw : zSum [v1] + 1 ≤ nL')
    (hJ : zJ y' cc' nL' ret' R' (fun r M' => zJG G y cc nL ret R Q X a' b' n l (zPush r st) M') X R'.cells R'.slots 0 (zEnt nL' [.ref k, v1]) [] M) (hG : zGe G := by exact zG0_e) : zJG G y cc nL ret R Q X a b pc l (v1 :: .ref k :: st) M := zj_callV (vs := [v1]) hn hd S hR hk hcl hst ha9 hb9 hw hJ hG
theorem zj_callS1 {y' : MethodName} {cc' : ByteArray} {nL' idx a' b' : Nat} {ret' : Option FieldType} {R' : Room} {v1 : Value} (hn : pc + 3 = n) (hd : decode cc pc = .ok (.invokestatic idx, 3)) (S : zSs y.cls idx y' cc' nL' ret' 1) (hR : R'.frames + 1 ≤ R.frames ∧ 8 + (nL' + 11) + R'.locals ≤ R.locals) (hst : zSum st ≤ 8) (ha9 : R'.cells + a' ≤ a) (hb9 : R'.slots + b' ≤ b) (hw : zSum [v1] ≤ nL')
    (hJ : zJ y' cc' nL' ret' R' (fun r M' => zJG G y cc nL ret R Q X a' b' n l (zPush r st) M') X R'.cells R'.slots 0 (zEnt nL' [v1]) [] M) (hG : zGe G := by exact zG0_e) : zJG G y cc nL ret R Q X a b pc l (v1 :: st) M := zj_callS (vs := [v1]) hn hd S hR hst ha9 hb9 hw hJ hG
theorem zj_callSN1 {y' : MethodName} {cc' : ByteArray} {nL' idx a' b' : Nat} {ret' : Option FieldType} {R' : Room} {v1 : Value} (hn : pc + 3 = n) (hd : decode cc pc = .ok (.invokestatic idx, 3)) (S : zSn y.cls idx y' cc' nL' ret' 1) (hR : R'.frames + 1 ≤ R.frames ∧ 8 + (nL' + 11) + R'.locals ≤ R.locals) (hst : zSum st ≤ 8) (ha9 : R'.cells + a' ≤ a) (hb9 : R'.slots + b' ≤ b) (hw : zSum [v1] ≤ nL')
    (hJ : zJ y' cc' nL' ret' R' (fun r M' => zJG G y cc nL ret R Q X a' b' n l (zPush r st) M') (fun _ _ => False) R'.cells R'.slots 0 (zEnt nL' [v1]) [] M) : zJG G y cc nL ret R Q X a b pc l (v1 :: st) M := zj_callSN (vs := [v1]) hn hd S hR hst ha9 hb9 hw hJ
theorem zj_callV2 {y' : MethodName} {cc' : ByteArray} {nL' idx k a' b' : Nat} {ret' : Option FieldType} {R' : Room} {v1 v2 : Value} (hn : pc + 3 = n) (hd : decode cc pc = .ok (.invokevirtual idx, 3)) (S : zSv y.cls idx y' cc' nL' ret' 2) (hR : R'.frames + 1 ≤ R.frames ∧ 8 + (nL' + 11) + R'.locals ≤ R.locals) (hk : k < 133) (hcl : (vwCl[zTy k]?).map (fun q => q.1) = some y'.cls) (hst : zSum st ≤ 8) (ha9 : R'.cells + a' ≤ a) (hb9 : R'.slots + b' ≤ b) (hw : zSum [v1, v2] + 1 ≤ nL')
    (hJ : zJ y' cc' nL' ret' R' (fun r M' => zJG G y cc nL ret R Q X a' b' n l (zPush r st) M') X R'.cells R'.slots 0 (zEnt nL' [.ref k, v1, v2]) [] M) (hG : zGe G := by exact zG0_e) : zJG G y cc nL ret R Q X a b pc l (v2 :: v1 :: .ref k :: st) M := zj_callV (vs := [v1, v2]) hn hd S hR hk hcl hst ha9 hb9 hw hJ hG
theorem zj_callS2 {y' : MethodName} {cc' : ByteArray} {nL' idx a' b' : Nat} {ret' : Option FieldType} {R' : Room} {v1 v2 : Value} (hn : pc + 3 = n) (hd : decode cc pc = .ok (.invokestatic idx, 3)) (S : zSs y.cls idx y' cc' nL' ret' 2) (hR : R'.frames + 1 ≤ R.frames ∧ 8 + (nL' + 11) + R'.locals ≤ R.locals) (hst : zSum st ≤ 8) (ha9 : R'.cells + a' ≤ a) (hb9 : R'.slots + b' ≤ b) (hw : zSum [v1, v2] ≤ nL')
    (hJ : zJ y' cc' nL' ret' R' (fun r M' => zJG G y cc nL ret R Q X a' b' n l (zPush r st) M') X R'.cells R'.slots 0 (zEnt nL' [v1, v2]) [] M) (hG : zGe G := by exact zG0_e) : zJG G y cc nL ret R Q X a b pc l (v2 :: v1 :: st) M := zj_callS (vs := [v1, v2]) hn hd S hR hst ha9 hb9 hw hJ hG
theorem zj_callV3 {y' : MethodName} {cc' : ByteArray} {nL' idx k a' b' : Nat} {ret' : Option FieldType} {R' : Room} {v1 v2 v3 : Value} (hn : pc + 3 = n) (hd : decode cc pc = .ok (.invokevirtual idx, 3)) (S : zSv y.cls idx y' cc' nL' ret' 3) (hR : R'.frames + 1 ≤ R.frames ∧ 8 + (nL' + 11) + R'.locals ≤ R.locals) (hk : k < 133) (hcl : (vwCl[zTy k]?).map (fun q => q.1) = some y'.cls) (hst : zSum st ≤ 8) (ha9 : R'.cells + a' ≤ a) (hb9 : R'.slots + b' ≤ b) (hw : zSum [v1, v2, v3] + 1 ≤ nL')
    (hJ : zJ y' cc' nL' ret' R' (fun r M' => zJG G y cc nL ret R Q X a' b' n l (zPush r st) M') X R'.cells R'.slots 0 (zEnt nL' [.ref k, v1, v2, v3]) [] M) (hG : zGe G := by exact zG0_e) : zJG G y cc nL ret R Q X a b pc l (v3 :: v2 :: v1 :: .ref k :: st) M := zj_callV (vs := [v1, v2, v3]) hn hd S hR hk hcl hst ha9 hb9 hw hJ hG
theorem zj_callS3 {y' : MethodName} {cc' : ByteArray} {nL' idx a' b' : Nat} {ret' : Option FieldType} {R' : Room} {v1 v2 v3 : Value} (hn : pc + 3 = n) (hd : decode cc pc = .ok (.invokestatic idx, 3)) (S : zSs y.cls idx y' cc' nL' ret' 3) (hR : R'.frames + 1 ≤ R.frames ∧ 8 + (nL' + 11) + R'.locals ≤ R.locals) (hst : zSum st ≤ 8) (ha9 : R'.cells + a' ≤ a) (hb9 : R'.slots + b' ≤ b) (hw : zSum [v1, v2, v3] ≤ nL')
    (hJ : zJ y' cc' nL' ret' R' (fun r M' => zJG G y cc nL ret R Q X a' b' n l (zPush r st) M') X R'.cells R'.slots 0 (zEnt nL' [v1, v2, v3]) [] M) (hG : zGe G := by exact zG0_e) : zJG G y cc nL ret R Q X a b pc l (v3 :: v2 :: v1 :: st) M := zj_callS (vs := [v1, v2, v3]) hn hd S hR hst ha9 hb9 hw hJ hG
theorem zj_callV4 {y' : MethodName} {cc' : ByteArray} {nL' idx k a' b' : Nat} {ret' : Option FieldType} {R' : Room} {v1 v2 v3 v4 : Value} (hn : pc + 3 = n) (hd : decode cc pc = .ok (.invokevirtual idx, 3)) (S : zSv y.cls idx y' cc' nL' ret' 4) (hR : R'.frames + 1 ≤ R.frames ∧ 8 + (nL' + 11) + R'.locals ≤ R.locals) (hk : k < 133) (hcl : (vwCl[zTy k]?).map (fun q => q.1) = some y'.cls) (hst : zSum st ≤ 8) (ha9 : R'.cells + a' ≤ a) (hb9 : R'.slots + b' ≤ b) (hw : zSum [v1, v2, v3, v4] + 1 ≤ nL')
    (hJ : zJ y' cc' nL' ret' R' (fun r M' => zJG G y cc nL ret R Q X a' b' n l (zPush r st) M') X R'.cells R'.slots 0 (zEnt nL' [.ref k, v1, v2, v3, v4]) [] M) (hG : zGe G := by exact zG0_e) : zJG G y cc nL ret R Q X a b pc l (v4 :: v3 :: v2 :: v1 :: .ref k :: st) M := zj_callV (vs := [v1, v2, v3, v4]) hn hd S hR hk hcl hst ha9 hb9 hw hJ hG
theorem zj_callS4 {y' : MethodName} {cc' : ByteArray} {nL' idx a' b' : Nat} {ret' : Option FieldType} {R' : Room} {v1 v2 v3 v4 : Value} (hn : pc + 3 = n) (hd : decode cc pc = .ok (.invokestatic idx, 3)) (S : zSs y.cls idx y' cc' nL' ret' 4) (hR : R'.frames + 1 ≤ R.frames ∧ 8 + (nL' + 11) + R'.locals ≤ R.locals) (hst : zSum st ≤ 8) (ha9 : R'.cells + a' ≤ a) (hb9 : R'.slots + b' ≤ b) (hw : zSum [v1, v2, v3, v4] ≤ nL')
    (hJ : zJ y' cc' nL' ret' R' (fun r M' => zJG G y cc nL ret R Q X a' b' n l (zPush r st) M') X R'.cells R'.slots 0 (zEnt nL' [v1, v2, v3, v4]) [] M) (hG : zGe G := by exact zG0_e) : zJG G y cc nL ret R Q X a b pc l (v4 :: v3 :: v2 :: v1 :: st) M := zj_callS (vs := [v1, v2, v3, v4]) hn hd S hR hst ha9 hb9 hw hJ hG
theorem zj_callV5 {y' : MethodName} {cc' : ByteArray} {nL' idx k a' b' : Nat} {ret' : Option FieldType} {R' : Room} {v1 v2 v3 v4 v5 : Value} (hn : pc + 3 = n) (hd : decode cc pc = .ok (.invokevirtual idx, 3)) (S : zSv y.cls idx y' cc' nL' ret' 5) (hR : R'.frames + 1 ≤ R.frames ∧ 8 + (nL' + 11) + R'.locals ≤ R.locals) (hk : k < 133) (hcl : (vwCl[zTy k]?).map (fun q => q.1) = some y'.cls) (hst : zSum st ≤ 8) (ha9 : R'.cells + a' ≤ a) (hb9 : R'.slots + b' ≤ b) (hw : zSum [v1, v2, v3, v4, v5] + 1 ≤ nL')
    (hJ : zJ y' cc' nL' ret' R' (fun r M' => zJG G y cc nL ret R Q X a' b' n l (zPush r st) M') X R'.cells R'.slots 0 (zEnt nL' [.ref k, v1, v2, v3, v4, v5]) [] M) (hG : zGe G := by exact zG0_e) : zJG G y cc nL ret R Q X a b pc l (v5 :: v4 :: v3 :: v2 :: v1 :: .ref k :: st) M := zj_callV (vs := [v1, v2, v3, v4, v5]) hn hd S hR hk hcl hst ha9 hb9 hw hJ hG
theorem zj_callS5 {y' : MethodName} {cc' : ByteArray} {nL' idx a' b' : Nat} {ret' : Option FieldType} {R' : Room} {v1 v2 v3 v4 v5 : Value} (hn : pc + 3 = n) (hd : decode cc pc = .ok (.invokestatic idx, 3)) (S : zSs y.cls idx y' cc' nL' ret' 5) (hR : R'.frames + 1 ≤ R.frames ∧ 8 + (nL' + 11) + R'.locals ≤ R.locals) (hst : zSum st ≤ 8) (ha9 : R'.cells + a' ≤ a) (hb9 : R'.slots + b' ≤ b) (hw : zSum [v1, v2, v3, v4, v5] ≤ nL')
    (hJ : zJ y' cc' nL' ret' R' (fun r M' => zJG G y cc nL ret R Q X a' b' n l (zPush r st) M') X R'.cells R'.slots 0 (zEnt nL' [v1, v2, v3, v4, v5]) [] M) (hG : zGe G := by exact zG0_e) : zJG G y cc nL ret R Q X a b pc l (v5 :: v4 :: v3 :: v2 :: v1 :: st) M := zj_callS (vs := [v1, v2, v3, v4, v5]) hn hd S hR hst ha9 hb9 hw hJ hG
theorem zj_callV6 {y' : MethodName} {cc' : ByteArray} {nL' idx k a' b' : Nat} {ret' : Option FieldType} {R' : Room} {v1 v2 v3 v4 v5 v6 : Value} (hn : pc + 3 = n) (hd : decode cc pc = .ok (.invokevirtual idx, 3)) (S : zSv y.cls idx y' cc' nL' ret' 6) (hR : R'.frames + 1 ≤ R.frames ∧ 8 + (nL' + 11) + R'.locals ≤ R.locals) (hk : k < 133) (hcl : (vwCl[zTy k]?).map (fun q => q.1) = some y'.cls) (hst : zSum st ≤ 8) (ha9 : R'.cells + a' ≤ a) (hb9 : R'.slots + b' ≤ b) (hw : zSum [v1, v2, v3, v4, v5, v6] + 1 ≤ nL')
    (hJ : zJ y' cc' nL' ret' R' (fun r M' => zJG G y cc nL ret R Q X a' b' n l (zPush r st) M') X R'.cells R'.slots 0 (zEnt nL' [.ref k, v1, v2, v3, v4, v5, v6]) [] M) (hG : zGe G := by exact zG0_e) : zJG G y cc nL ret R Q X a b pc l (v6 :: v5 :: v4 :: v3 :: v2 :: v1 :: .ref k :: st) M := zj_callV (vs := [v1, v2, v3, v4, v5, v6]) hn hd S hR hk hcl hst ha9 hb9 hw hJ hG
theorem zj_callS6 {y' : MethodName} {cc' : ByteArray} {nL' idx a' b' : Nat} {ret' : Option FieldType} {R' : Room} {v1 v2 v3 v4 v5 v6 : Value} (hn : pc + 3 = n) (hd : decode cc pc = .ok (.invokestatic idx, 3)) (S : zSs y.cls idx y' cc' nL' ret' 6) (hR : R'.frames + 1 ≤ R.frames ∧ 8 + (nL' + 11) + R'.locals ≤ R.locals) (hst : zSum st ≤ 8) (ha9 : R'.cells + a' ≤ a) (hb9 : R'.slots + b' ≤ b) (hw : zSum [v1, v2, v3, v4, v5, v6] ≤ nL')
    (hJ : zJ y' cc' nL' ret' R' (fun r M' => zJG G y cc nL ret R Q X a' b' n l (zPush r st) M') X R'.cells R'.slots 0 (zEnt nL' [v1, v2, v3, v4, v5, v6]) [] M) (hG : zGe G := by exact zG0_e) : zJG G y cc nL ret R Q X a b pc l (v6 :: v5 :: v4 :: v3 :: v2 :: v1 :: st) M := zj_callS (vs := [v1, v2, v3, v4, v5, v6]) hn hd S hR hst ha9 hb9 hw hJ hG
end Z6
def rJ0_charAt_5068e : Room := { frames := 4, cells := 0, slots := 0, locals := 85 }
def rJ0_checkIndex_df160 : Room := { frames := 1, cells := 0, slots := 0, locals := 22 }
def rJ0_coder_7d493 : Room := { frames := 0, cells := 0, slots := 0, locals := 0 }
def rJ0_isLatin1_aae02 : Room := { frames := 0, cells := 0, slots := 0, locals := 0 }
def rJ0_length_8abf5 : Room := { frames := 1, cells := 0, slots := 0, locals := 20 }
def rJ1_charAt_3b067 : Room := { frames := 2, cells := 0, slots := 0, locals := 43 }
def rJ3_checkIndex_8e157 : Room := { frames := 0, cells := 0, slots := 0, locals := 0 }
def rJ6_bitCount_0f7a4 : Room := { frames := 0, cells := 0, slots := 0, locals := 0 }
def rJ9_floorMod_7cf53 : Room := { frames := 0, cells := 0, slots := 0, locals := 0 }
def rX0_bidOf : Room := { frames := 4, cells := 0, slots := 0, locals := 104 }
def rX0_charge : Room := { frames := 2, cells := 0, slots := 0, locals := 48 }
def rX0_enter : Room := { frames := 2, cells := 0, slots := 0, locals := 49 }
def rX0_hold : Room := { frames := 5, cells := 0, slots := 0, locals := 128 }
def rX0_offerOf : Room := { frames := 3, cells := 0, slots := 0, locals := 79 }
def rX0_priceAt : Room := { frames := 1, cells := 0, slots := 0, locals := 24 }
def rX0_repair : Room := { frames := 4, cells := 0, slots := 0, locals := 104 }
def rX0_sell : Room := { frames := 4, cells := 0, slots := 0, locals := 94 }
def rX0_settle : Room := { frames := 5, cells := 0, slots := 0, locals := 131 }
def rX0_tenantAt : Room := { frames := 1, cells := 0, slots := 0, locals := 24 }
def rX0_unitsPayable : Room := { frames := 2, cells := 0, slots := 0, locals := 47 }
def rX10_append : Room := { frames := 2, cells := 0, slots := 0, locals := 44 }
def rX10_appendFour : Room := { frames := 0, cells := 0, slots := 0, locals := 0 }
def rX10_availableOf : Room := { frames := 4, cells := 0, slots := 0, locals := 90 }
def rX10_bandwidth : Room := { frames := 0, cells := 0, slots := 0, locals := 0 }
def rX10_become : Room := { frames := 0, cells := 0, slots := 0, locals := 0 }
def rX10_beginThought : Room := { frames := 0, cells := 0, slots := 0, locals := 0 }
def rX10_begins : Room := { frames := 3, cells := 0, slots := 0, locals := 66 }
def rX10_bidder : Room := { frames := 9, cells := 0, slots := 0, locals := 203 }
def rX10_bids : Room := { frames := 8, cells := 0, slots := 0, locals := 180 }
def rX10_bitCount : Room := { frames := 0, cells := 0, slots := 0, locals := 0 }
def rX10_byteAt : Room := { frames := 0, cells := 0, slots := 0, locals := 0 }
def rX10_calm : Room := { frames := 11, cells := 0, slots := 0, locals := 248 }
def rX10_checkName : Room := { frames := 7, cells := 0, slots := 0, locals := 150 }
def rX10_clearingPrice : Room := { frames := 10, cells := 0, slots := 0, locals := 226 }
def rX10_clockwise : Room := { frames := 2, cells := 0, slots := 0, locals := 46 }
def rX10_costOf : Room := { frames := 1, cells := 0, slots := 0, locals := 22 }
def rX10_count : Room := { frames := 2, cells := 0, slots := 0, locals := 44 }
def rX10_damaged : Room := { frames := 5, cells := 0, slots := 0, locals := 110 }
def rX10_dearestRound : Room := { frames := 2, cells := 0, slots := 0, locals := 44 }
def rX10_drain : Room := { frames := 3, cells := 0, slots := 0, locals := 70 }
def rX10_endThought : Room := { frames := 0, cells := 0, slots := 0, locals := 0 }
def rX10_errorCode : Room := { frames := 0, cells := 0, slots := 0, locals := 0 }
def rX10_errorPosition : Room := { frames := 0, cells := 0, slots := 0, locals := 0 }
def rX10_errs : Room := { frames := 1, cells := 0, slots := 0, locals := 20 }
def rX10_expectedLoss : Room := { frames := 6, cells := 0, slots := 0, locals := 138 }
def rX10_fail : Room := { frames := 7, cells := 0, slots := 0, locals := 154 }
def rX10_failuresOf : Room := { frames := 5, cells := 0, slots := 0, locals := 111 }
def rX10_fewest : Room := { frames := 6, cells := 0, slots := 0, locals := 132 }
def rX10_fewestFailures : Room := { frames := 7, cells := 0, slots := 0, locals := 154 }
def rX10_fewestFailuresSet : Room := { frames := 7, cells := 0, slots := 0, locals := 154 }
def rX10_find : Room := { frames := 3, cells := 0, slots := 0, locals := 69 }
def rX10_firstMissing : Room := { frames := 3, cells := 0, slots := 0, locals := 67 }
def rX10_goOn : Room := { frames := 2, cells := 0, slots := 0, locals := 46 }
def rX10_good : Room := { frames := 0, cells := 0, slots := 0, locals := 0 }
def rX10_grant : Room := { frames := 2, cells := 0, slots := 0, locals := 46 }
def rX10_group : Room := { frames := 5, cells := 0, slots := 0, locals := 111 }
def rX10_groupValue : Room := { frames := 0, cells := 0, slots := 0, locals := 0 }
def rX10_groupsOn : Room := { frames := 3, cells := 0, slots := 0, locals := 69 }
def rX10_growPurses : Room := { frames := 2, cells := 0, slots := 0, locals := 44 }
def rX10_grownPurse : Room := { frames := 1, cells := 0, slots := 0, locals := 22 }
def rX10_hasBit : Room := { frames := 0, cells := 0, slots := 0, locals := 0 }
def rX10_hasShardOn : Room := { frames := 2, cells := 0, slots := 0, locals := 44 }
def rX10_history : Room := { frames := 2, cells := 0, slots := 0, locals := 45 }
def rX10_historySize : Room := { frames := 0, cells := 0, slots := 0, locals := 0 }
def rX10_holder : Room := { frames := 1, cells := 0, slots := 0, locals := 22 }
def rX10_in : Room := { frames := 0, cells := 0, slots := 0, locals := 0 }
def rX10_isAnyDamaged : Room := { frames := 5, cells := 0, slots := 0, locals := 110 }
def rX10_isAvailable : Room := { frames := 2, cells := 0, slots := 0, locals := 44 }
def rX10_isBidding : Room := { frames := 7, cells := 0, slots := 0, locals := 159 }
def rX10_isDamaged : Room := { frames := 4, cells := 0, slots := 0, locals := 89 }
def rX10_isDownNode : Room := { frames := 2, cells := 0, slots := 0, locals := 46 }
def rX10_isGroup : Room := { frames := 1, cells := 0, slots := 0, locals := 25 }
def rX10_isInZone : Room := { frames := 2, cells := 0, slots := 0, locals := 44 }
def rX10_isInputWord : Room := { frames := 1, cells := 0, slots := 0, locals := 25 }
def rX10_isKeyword : Room := { frames := 6, cells := 0, slots := 0, locals := 129 }
def rX10_isLost : Room := { frames := 5, cells := 0, slots := 0, locals := 111 }
def rX10_isNode : Room := { frames := 1, cells := 0, slots := 0, locals := 25 }
def rX10_isPlaced : Room := { frames := 4, cells := 0, slots := 0, locals := 99 }
def rX10_isTakenPosition : Room := { frames := 1, cells := 0, slots := 0, locals := 22 }
def rX10_isTenant : Room := { frames := 1, cells := 0, slots := 0, locals := 25 }
def rX10_isText : Room := { frames := 5, cells := 0, slots := 0, locals := 106 }
def rX10_kindNamed : Room := { frames := 2, cells := 0, slots := 0, locals := 48 }
def rX10_layBids : Room := { frames := 8, cells := 0, slots := 0, locals := 180 }
def rX10_layRound : Room := { frames := 9, cells := 0, slots := 0, locals := 203 }
def rX10_letter : Room := { frames := 0, cells := 0, slots := 0, locals := 0 }
def rX10_load : Room := { frames := 11, cells := 0, slots := 0, locals := 235 }
def rX10_longestRise : Room := { frames := 1, cells := 0, slots := 0, locals := 22 }
def rX10_loss : Room := { frames := 6, cells := 0, slots := 0, locals := 138 }
def rX10_lossOf : Room := { frames := 5, cells := 0, slots := 0, locals := 111 }
def rX10_lossSum : Room := { frames := 6, cells := 0, slots := 0, locals := 138 }
def rX10_lossWithout : Room := { frames := 6, cells := 0, slots := 0, locals := 138 }
def rX10_lost : Room := { frames := 7, cells := 0, slots := 0, locals := 154 }
def rX10_lostBy : Room := { frames := 7, cells := 0, slots := 0, locals := 154 }
def rX10_lostSet : Room := { frames := 6, cells := 0, slots := 0, locals := 132 }
def rX10_lowestNodes : Room := { frames := 3, cells := 0, slots := 0, locals := 69 }
def rX10_meanPrice : Room := { frames := 2, cells := 0, slots := 0, locals := 45 }
def rX10_missing : Room := { frames := 4, cells := 0, slots := 0, locals := 90 }
def rX10_missingSet : Room := { frames := 3, cells := 0, slots := 0, locals := 67 }
def rX10_move : Room := { frames := 3, cells := 0, slots := 0, locals := 70 }
def rX10_named : Room := { frames := 1, cells := 0, slots := 0, locals := 21 }
def rX10_needOf : Room := { frames := 4, cells := 0, slots := 0, locals := 90 }
def rX10_newName : Room := { frames := 8, cells := 0, slots := 0, locals := 170 }
def rX10_nextRound : Room := { frames := 0, cells := 0, slots := 0, locals := 0 }
def rX10_node : Room := { frames := 3, cells := 0, slots := 0, locals := 70 }
def rX10_nodeAtOrBehind : Room := { frames := 1, cells := 0, slots := 0, locals := 22 }
def rX10_nodeFrom : Room := { frames := 2, cells := 0, slots := 0, locals := 47 }
def rX10_nodeOf : Room := { frames := 2, cells := 0, slots := 0, locals := 46 }
def rX10_nodeValue : Room := { frames := 0, cells := 0, slots := 0, locals := 0 }
def rX10_numberAfter : Room := { frames := 7, cells := 0, slots := 0, locals := 150 }
def rX10_numberHere : Room := { frames := 2, cells := 0, slots := 0, locals := 41 }
def rX10_offer : Room := { frames := 7, cells := 0, slots := 0, locals := 159 }
def rX10_offerOf : Room := { frames := 6, cells := 0, slots := 0, locals := 138 }
def rX10_outcome : Room := { frames := 10, cells := 0, slots := 0, locals := 226 }
def rX10_outputByte : Room := { frames := 2, cells := 0, slots := 0, locals := 44 }
def rX10_paidUntilCalm : Room := { frames := 12, cells := 0, slots := 0, locals := 269 }
def rX10_parseGroup : Room := { frames := 9, cells := 0, slots := 0, locals := 193 }
def rX10_parseNode : Room := { frames := 9, cells := 0, slots := 0, locals := 193 }
def rX10_parseRing : Room := { frames := 8, cells := 0, slots := 0, locals := 174 }
def rX10_parseStatement : Room := { frames := 10, cells := 0, slots := 0, locals := 215 }
def rX10_parseTenant : Room := { frames := 9, cells := 0, slots := 0, locals := 193 }
def rX10_passRound : Room := { frames := 10, cells := 0, slots := 0, locals := 226 }
def rX10_passes : Room := { frames := 1, cells := 0, slots := 0, locals := 23 }
def rX10_passes2 : Room := { frames := 1, cells := 0, slots := 0, locals := 23 }
def rX10_passes3 : Room := { frames := 0, cells := 0, slots := 0, locals := 0 }
def rX10_pay : Room := { frames := 1, cells := 0, slots := 0, locals := 23 }
def rX10_payableAt : Room := { frames := 2, cells := 0, slots := 0, locals := 44 }
def rX10_placeFor : Room := { frames := 3, cells := 0, slots := 0, locals := 70 }
def rX10_placeMissing : Room := { frames := 4, cells := 0, slots := 0, locals := 99 }
def rX10_purseAfter : Room := { frames := 11, cells := 0, slots := 0, locals := 248 }
def rX10_record : Room := { frames := 0, cells := 0, slots := 0, locals := 0 }
def rX10_recorded : Room := { frames := 0, cells := 0, slots := 0, locals := 0 }
def rX10_recover : Room := { frames := 7, cells := 0, slots := 0, locals := 154 }
def rX10_remember : Room := { frames := 0, cells := 0, slots := 0, locals := 0 }
def rX10_repair : Room := { frames := 5, cells := 0, slots := 0, locals := 121 }
def rX10_round : Room := { frames := 11, cells := 0, slots := 0, locals := 248 }
def rX10_rounds : Room := { frames := 11, cells := 0, slots := 0, locals := 248 }
def rX10_roundsToCalm : Room := { frames := 12, cells := 0, slots := 0, locals := 269 }
def rX10_roundsToRepair : Room := { frames := 11, cells := 0, slots := 0, locals := 248 }
def rX10_scan : Room := { frames := 1, cells := 0, slots := 0, locals := 25 }
def rX10_semicolon : Room := { frames := 3, cells := 0, slots := 0, locals := 66 }
def rX10_set : Room := { frames := 1, cells := 0, slots := 0, locals := 21 }
def rX10_setBandwidth : Room := { frames := 2, cells := 0, slots := 0, locals := 44 }
def rX10_setRisk : Room := { frames := 2, cells := 0, slots := 0, locals := 46 }
def rX10_setRule : Room := { frames := 2, cells := 0, slots := 0, locals := 44 }
def rX10_shardsOf : Room := { frames := 1, cells := 0, slots := 0, locals := 22 }
def rX10_shardsOn : Room := { frames := 2, cells := 0, slots := 0, locals := 44 }
def rX10_share : Room := { frames := 2, cells := 0, slots := 0, locals := 46 }
def rX10_soldIn : Room := { frames := 11, cells := 0, slots := 0, locals := 248 }
def rX10_target : Room := { frames := 5, cells := 0, slots := 0, locals := 121 }
def rX10_tenant : Room := { frames := 2, cells := 0, slots := 0, locals := 46 }
def rX10_tenantValue : Room := { frames := 0, cells := 0, slots := 0, locals := 0 }
def rX10_thrown : Room := { frames := 0, cells := 0, slots := 0, locals := 0 }
def rX10_truncate : Room := { frames := 2, cells := 0, slots := 0, locals := 44 }
def rX10_undo : Room := { frames := 2, cells := 0, slots := 0, locals := 44 }
def rX10_undoCount : Room := { frames := 0, cells := 0, slots := 0, locals := 0 }
def rX10_word : Room := { frames := 6, cells := 0, slots := 0, locals := 129 }
def rX10_worstNode : Room := { frames := 7, cells := 0, slots := 0, locals := 161 }
def rX10_write : Room := { frames := 0, cells := 0, slots := 0, locals := 0 }
def rX10_writeBids : Room := { frames := 9, cells := 0, slots := 0, locals := 203 }
def rX10_writeNumber : Room := { frames := 1, cells := 0, slots := 0, locals := 21 }
def rX10_zoneShards : Room := { frames := 3, cells := 0, slots := 0, locals := 70 }
def rX10_zonesOf : Room := { frames := 3, cells := 0, slots := 0, locals := 67 }
def rX1_add : Room := { frames := 0, cells := 0, slots := 0, locals := 0 }
def rX1_addFour : Room := { frames := 1, cells := 0, slots := 0, locals := 21 }
def rX1_addName : Room := { frames := 1, cells := 0, slots := 0, locals := 21 }
def rX1_addNumber : Room := { frames := 1, cells := 0, slots := 0, locals := 21 }
def rX1_at : Room := { frames := 0, cells := 0, slots := 0, locals := 0 }
def rX1_cut : Room := { frames := 0, cells := 0, slots := 0, locals := 0 }
def rX1_isBlank : Room := { frames := 0, cells := 0, slots := 0, locals := 0 }
def rX1_isDigit : Room := { frames := 0, cells := 0, slots := 0, locals := 0 }
def rX1_isLetter : Room := { frames := 0, cells := 0, slots := 0, locals := 0 }
def rX1_nameBetween : Room := { frames := 1, cells := 0, slots := 0, locals := 21 }
def rX1_spells : Room := { frames := 5, cells := 0, slots := 0, locals := 106 }
def rX2_addUp : Room := { frames := 0, cells := 0, slots := 0, locals := 0 }
def rX2_begin : Room := { frames := 3, cells := 0, slots := 0, locals := 68 }
def rX2_run : Room := { frames := 6, cells := 0, slots := 0, locals := 153 }
def rX2_untilWhole : Room := { frames := 6, cells := 0, slots := 0, locals := 153 }
def rX4_addRisk : Room := { frames := 1, cells := 0, slots := 0, locals := 21 }
def rX4_lossOf : Room := { frames := 2, cells := 0, slots := 0, locals := 50 }
def rX5_isAt : Room := { frames := 6, cells := 0, slots := 0, locals := 130 }
def rX5_isKeyword : Room := { frames := 6, cells := 0, slots := 0, locals := 130 }
def rX5_nextToken : Room := { frames := 2, cells := 0, slots := 0, locals := 41 }
def rX5_parse : Room := { frames := 10, cells := 0, slots := 0, locals := 226 }
def rX5_readDigits : Room := { frames := 1, cells := 0, slots := 0, locals := 21 }
def rX5_readGroup : Room := { frames := 9, cells := 0, slots := 0, locals := 196 }
def rX5_readNode : Room := { frames := 9, cells := 0, slots := 0, locals := 196 }
def rX5_readRing : Room := { frames := 9, cells := 0, slots := 0, locals := 192 }
def rX5_readTenant : Room := { frames := 9, cells := 0, slots := 0, locals := 196 }
def rX5_refuse : Room := { frames := 0, cells := 0, slots := 0, locals := 0 }
def rX5_skipLetters : Room := { frames := 1, cells := 0, slots := 0, locals := 21 }
def rX5_take : Room := { frames := 7, cells := 0, slots := 0, locals := 151 }
def rX5_takeBeginning : Room := { frames := 8, cells := 0, slots := 0, locals := 172 }
def rX5_takeEnd : Room := { frames := 3, cells := 0, slots := 0, locals := 61 }
def rX5_takeName : Room := { frames := 7, cells := 0, slots := 0, locals := 151 }
def rX5_takeNumber : Room := { frames := 3, cells := 0, slots := 0, locals := 61 }
def rX5_takeRule : Room := { frames := 8, cells := 0, slots := 0, locals := 172 }
def rX6_allGroups : Room := { frames := 0, cells := 0, slots := 0, locals := 0 }
def rX6_allNodes : Room := { frames := 0, cells := 0, slots := 0, locals := 0 }
def rX6_availableNodes : Room := { frames := 2, cells := 0, slots := 0, locals := 49 }
def rX6_availableSet : Room := { frames := 1, cells := 0, slots := 0, locals := 24 }
def rX6_canTake : Room := { frames := 1, cells := 0, slots := 0, locals := 24 }
def rX6_clearThings : Room := { frames := 1, cells := 0, slots := 0, locals := 20 }
def rX6_copyFrom : Room := { frames := 2, cells := 0, slots := 0, locals := 47 }
def rX6_damagedSet : Room := { frames := 3, cells := 0, slots := 0, locals := 72 }
def rX6_failuresToLose : Room := { frames := 3, cells := 0, slots := 0, locals := 72 }
def rX6_grownPurse : Room := { frames := 1, cells := 0, slots := 0, locals := 24 }
def rX6_lostSet : Room := { frames := 3, cells := 0, slots := 0, locals := 72 }
def rX6_missingSet : Room := { frames := 2, cells := 0, slots := 0, locals := 50 }
def rX6_needOf : Room := { frames := 3, cells := 0, slots := 0, locals := 72 }
def rX6_nodeSet : Room := { frames := 1, cells := 0, slots := 0, locals := 24 }
def rX6_nodeWith : Room := { frames := 1, cells := 0, slots := 0, locals := 24 }
def rX6_note : Room := { frames := 2, cells := 0, slots := 0, locals := 49 }
def rX6_placeAll : Room := { frames := 3, cells := 0, slots := 0, locals := 80 }
def rX6_placeFor : Room := { frames := 2, cells := 0, slots := 0, locals := 50 }
def rX6_put : Room := { frames := 2, cells := 0, slots := 0, locals := 48 }
def rX6_setState : Room := { frames := 1, cells := 0, slots := 0, locals := 25 }
def rX6_spareShards : Room := { frames := 2, cells := 0, slots := 0, locals := 50 }
def rX6_tableOf : Room := { frames := 0, cells := 0, slots := 0, locals := 0 }
def rX6_targetOf : Room := { frames := 3, cells := 0, slots := 0, locals := 80 }
def rX6_unitsAtHand : Room := { frames := 0, cells := 0, slots := 0, locals := 0 }
def rX6_wayTo : Room := { frames := 1, cells := 0, slots := 0, locals := 24 }
def rX6_zoneSet : Room := { frames := 1, cells := 0, slots := 0, locals := 24 }
def rX7_addNamed : Room := { frames := 2, cells := 0, slots := 0, locals := 49 }
def rX7_clear : Room := { frames := 0, cells := 0, slots := 0, locals := 0 }
def rX7_copyFrom : Room := { frames := 1, cells := 0, slots := 0, locals := 26 }
def rX7_dropFirstRow : Room := { frames := 1, cells := 0, slots := 0, locals := 26 }
def rX7_get : Room := { frames := 0, cells := 0, slots := 0, locals := 0 }
def rX7_holds : Room := { frames := 0, cells := 0, slots := 0, locals := 0 }
def rX7_increase : Room := { frames := 1, cells := 0, slots := 0, locals := 25 }
def rX7_insertRow : Room := { frames := 1, cells := 0, slots := 0, locals := 26 }
def rX7_isFull : Room := { frames := 0, cells := 0, slots := 0, locals := 0 }
def rX7_nameOf : Room := { frames := 1, cells := 0, slots := 0, locals := 24 }
def rX7_named : Room := { frames := 2, cells := 0, slots := 0, locals := 47 }
def rX7_rowWith : Room := { frames := 1, cells := 0, slots := 0, locals := 24 }
def rX7_set : Room := { frames := 0, cells := 0, slots := 0, locals := 0 }
def rX8_bringBack : Room := { frames := 3, cells := 0, slots := 0, locals := 68 }
def rX8_keep : Room := { frames := 3, cells := 0, slots := 0, locals := 68 }
def rX8_slotAt : Room := { frames := 0, cells := 0, slots := 0, locals := 0 }
def rX9_allValueAtRisk : Room := { frames := 4, cells := 0, slots := 0, locals := 101 }
def rX9_append : Room := { frames := 6, cells := 1, slots := 6, locals := 90 }
def rX9_bandwidth : Room := { frames := 1, cells := 0, slots := 0, locals := 20 }
def rX9_bidder : Room := { frames := 7, cells := 1, slots := 6, locals := 151 }
def rX9_bids : Room := { frames := 8, cells := 1, slots := 6, locals := 131 }
def rX9_clearingPrice : Room := { frames := 6, cells := 0, slots := 0, locals := 151 }
def rX9_clockwise : Room := { frames := 8, cells := 2, slots := 12, locals := 131 }
def rX9_count : Room := { frames := 7, cells := 1, slots := 6, locals := 110 }
def rX9_damaged : Room := { frames := 4, cells := 0, slots := 0, locals := 94 }
def rX9_dearestRound : Room := { frames := 7, cells := 1, slots := 6, locals := 110 }
def rX9_drain : Room := { frames := 8, cells := 2, slots := 12, locals := 131 }
def rX9_errorCode : Room := { frames := 0, cells := 0, slots := 0, locals := 0 }
def rX9_errorPosition : Room := { frames := 0, cells := 0, slots := 0, locals := 0 }
def rX9_expectedLoss : Room := { frames := 4, cells := 0, slots := 0, locals := 101 }
def rX9_fail : Room := { frames := 8, cells := 2, slots := 12, locals := 131 }
def rX9_fewestFailures : Room := { frames := 4, cells := 0, slots := 0, locals := 93 }
def rX9_fewestFailuresSet : Room := { frames := 5, cells := 0, slots := 0, locals := 116 }
def rX9_find : Room := { frames := 7, cells := 1, slots := 6, locals := 110 }
def rX9_grant : Room := { frames := 8, cells := 3, slots := 18, locals := 131 }
def rX9_group : Room := { frames := 8, cells := 2, slots := 12, locals := 131 }
def rX9_groupsOn : Room := { frames := 8, cells := 1, slots := 6, locals := 131 }
def rX9_history : Room := { frames := 7, cells := 2, slots := 12, locals := 110 }
def rX9_historySize : Room := { frames := 0, cells := 0, slots := 0, locals := 0 }
def rX9_isIn : Room := { frames := 0, cells := 0, slots := 0, locals := 0 }
def rX9_isKind : Room := { frames := 0, cells := 0, slots := 0, locals := 0 }
def rX9_load : Room := { frames := 11, cells := 0, slots := 0, locals := 247 }
def rX9_longestRise : Room := { frames := 1, cells := 0, slots := 0, locals := 24 }
def rX9_loss : Room := { frames := 8, cells := 1, slots := 6, locals := 131 }
def rX9_lossWithout : Room := { frames := 8, cells := 2, slots := 12, locals := 131 }
def rX9_lost : Room := { frames := 4, cells := 0, slots := 0, locals := 95 }
def rX9_lostBy : Room := { frames := 7, cells := 1, slots := 6, locals := 110 }
def rX9_lowestBits : Room := { frames := 0, cells := 0, slots := 0, locals := 0 }
def rX9_lowestOf : Room := { frames := 1, cells := 0, slots := 0, locals := 20 }
def rX9_meanPrice : Room := { frames := 7, cells := 2, slots := 12, locals := 110 }
def rX9_missing : Room := { frames := 8, cells := 1, slots := 6, locals := 131 }
def rX9_move : Room := { frames := 9, cells := 4, slots := 24, locals := 153 }
def rX9_needArgument : Room := { frames := 6, cells := 1, slots := 6, locals := 90 }
def rX9_needGroup : Room := { frames := 7, cells := 1, slots := 6, locals := 110 }
def rX9_needHistory : Room := { frames := 6, cells := 1, slots := 6, locals := 90 }
def rX9_needIndex : Room := { frames := 6, cells := 1, slots := 6, locals := 90 }
def rX9_needNode : Room := { frames := 7, cells := 1, slots := 6, locals := 110 }
def rX9_needShard : Room := { frames := 8, cells := 2, slots := 12, locals := 131 }
def rX9_needState : Room := { frames := 6, cells := 1, slots := 6, locals := 90 }
def rX9_needTenant : Room := { frames := 7, cells := 1, slots := 6, locals := 110 }
def rX9_nextRound : Room := { frames := 0, cells := 0, slots := 0, locals := 0 }
def rX9_node : Room := { frames := 8, cells := 2, slots := 12, locals := 131 }
def rX9_nodeFrom : Room := { frames := 7, cells := 1, slots := 6, locals := 110 }
def rX9_nodeOf : Room := { frames := 9, cells := 2, slots := 12, locals := 153 }
def rX9_offer : Room := { frames := 8, cells := 1, slots := 6, locals := 131 }
def rX9_outcome : Room := { frames := 8, cells := 2, slots := 12, locals := 151 }
def rX9_outputByte : Room := { frames := 7, cells := 1, slots := 6, locals := 110 }
def rX9_paidUntilCalm : Room := { frames := 7, cells := 0, slots := 0, locals := 176 }
def rX9_purseAfter : Room := { frames := 8, cells := 2, slots := 12, locals := 176 }
def rX9_recover : Room := { frames := 8, cells := 2, slots := 12, locals := 131 }
def rX9_round : Room := { frames := 6, cells := 0, slots := 0, locals := 153 }
def rX9_rounds : Room := { frames := 7, cells := 1, slots := 6, locals := 153 }
def rX9_roundsToCalm : Room := { frames := 7, cells := 0, slots := 0, locals := 176 }
def rX9_roundsToRepair : Room := { frames := 8, cells := 1, slots := 6, locals := 176 }
def rX9_setBandwidth : Room := { frames := 7, cells := 1, slots := 6, locals := 110 }
def rX9_setRisk : Room := { frames := 8, cells := 2, slots := 12, locals := 131 }
def rX9_setRule : Room := { frames := 7, cells := 1, slots := 6, locals := 110 }
def rX9_share : Room := { frames := 8, cells := 1, slots := 6, locals := 131 }
def rX9_soldIn : Room := { frames := 7, cells := 1, slots := 6, locals := 176 }
def rX9_target : Room := { frames := 8, cells := 1, slots := 6, locals := 131 }
def rX9_tenant : Room := { frames := 8, cells := 2, slots := 12, locals := 131 }
def rX9_truncate : Room := { frames := 7, cells := 1, slots := 6, locals := 110 }
def rX9_undo : Room := { frames := 7, cells := 1, slots := 6, locals := 110 }
def rX9_undoCount : Room := { frames := 0, cells := 0, slots := 0, locals := 0 }
def rX9_valueAtRisk : Room := { frames := 3, cells := 0, slots := 0, locals := 79 }
def rX9_worstNode : Room := { frames := 5, cells := 0, slots := 0, locals := 125 }
def rX9_writeBids : Room := { frames := 6, cells := 0, slots := 0, locals := 151 }
def rX9_zoneShards : Room := { frames := 7, cells := 1, slots := 6, locals := 110 }
def rX9_zonesOf : Room := { frames := 8, cells := 1, slots := 6, locals := 131 }
