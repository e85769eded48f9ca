/-! THE LAW: handlers, the script -/
def zXn : List String := ["java/lang/IllegalArgumentException", "java/lang/IllegalStateException", "java/lang/IndexOutOfBoundsException", "java/util/NoSuchElementException"]
def zNcs (s : State) : Prop := ∀ E ∈ zXn, ∀ N ∈ zXn, E ≠ N → va_Nc E N s
theorem zNcs.moved {u U : State} (hvm : u.vm.Alike U.vm) (h : zNcs u) : zNcs U := fun E h1 N h2 h3 => (h E h1 N h2 h3).moved hvm
/-- a method with a table of handlers -/
def zGH (hh : List (Nat × Nat × Nat × Nat)) : zGx := fun et _ _ s => et = tableOf hh ∧ zNcs s
/-- the law: no handlers; the script of L ints at 800 -/
def zGL (L : Nat) (xs : Nat → Int32) : zGx := fun et ad A s => (∀ x ∈ et, False) ∧ zNcs s ∧ va_X (ad 800) L xs s s.heap ∧ ad 800 < s.heap.size ∧ ¬ A (ad 800)
theorem zGL_e {L : Nat} {xs : Nat → Int32} : zGe (zGL L xs) := fun _ _ _ _ h => h.1
/-- what the handler of E does behind a throw at pc -/
def zHl (hh : List (Nat × Nat × Nat × Nat)) (y : MethodName) (cc : ByteArray) (nL : Nat) (ret : Option FieldType) (R : Room) (Q : Option Value → zM → Prop) (X : String → zM → Prop) (a b pc : Nat) (E : String) (M : zM) : Prop :=
  ∃ (pre suf : List (Nat × Nat × Nat × Nat)) (x : Nat × Nat × Nat × Nat) (i len : Nat), hh = pre ++ x :: suf ∧ E ∈ zXn ∧ (∀ z ∈ pre, z.2.2.2 ≠ 0 ∧ ∃ N, N ∈ zXn ∧ E ≠ N ∧ Cond.classLink y.cls z.2.2.2 N ∈ zTB) ∧ covers ⟨x.1, x.2.1, x.2.2.1, x.2.2.2⟩ pc = true ∧ x.2.2.2 ≠ 0 ∧ Cond.classLink y.cls x.2.2.2 E ∈ zTB ∧ Cond.castable E E ∈ zNl ∧
    ((∃ k : Fin 4, k.val = i ∧ decode cc x.2.2.1 = .ok (.astore_n k, 1) ∧ len = 1) ∨ (decode cc x.2.2.1 = .ok (.astore i, 2) ∧ len = 2)) ∧ i < nL ∧ zJG (zGH hh) y cc nL ret R Q X a b (x.2.2.1 + len) [] [] M
section ZL
variable {G : zGx} {y : MethodName} {cc : ByteArray} {nL : Nat} {ret : Option FieldType} {R : Room} {Q : Option Value → zM → Prop} {X : String → zM → Prop} {a b pc n : Nat} {l t : List (Option Value)} {st : List Value} {M : zM}
theorem zLR_nil {ad : Nat → Nat} {ls : Array Slot} {lv : List (Nat × Value)} (h : lv_has ls nL lv) : zLR ad ls nL [] := ⟨h.1, h.2.1, fun i v h => by simp at h⟩
/-- behind a call in a range of handlers -/
theorem zvxH {hh : List (Nat × Nat × Nat × Nat)} {la : Launch} {p : Program} {e : Env} {s : State} {m : MethodId} {args a9 : Array Value} {below : List Frame} {meth : Method} {c : Code} {D : va_G} {ad : Nat → Nat} {cy : Nat → ClassId} {A : Nat → Prop} {H : Heap} {locs : List Loc} {ls : Array Slot} {cells slots mc ms a' b' : Nat} {st0 : List Value}
    (hr : vx_Run p la e R s m args below meth c H locs cells slots mc ms (F0 m pc ls st0) (st.map (zC ad)) (zQc D ad cy A (fun r M' => zJG (zGH hh) y cc nL ret R Q X a' b' (pc + 3) l (zPush r st) M') a9) (zXc D ad cy A (fun E M' => zHl hh y cc nL ret R Q X a' b' pc E M')) A) (hc : zCx (zGH hh) la y cc nL ret p s m args meth c D ad cy A) (hS : va_S A s.heap H locs) (hl : zLR ad ls nL l) (ha : cells + mc + a' ≤ R.cells) (hb : slots + ms + b' ≤ R.slots) :
    W p la e R s m args below meth c H locs cells slots (vx_MQ below (zQc D ad cy A Q) (zXc D ad cy A X) args s R.cells R.slots A) (F0 m pc ls st0) := by
  have hc' := hc
  obtain ⟨hf, hx, hcb, hr9, hml, hown, hts, hlk, het, hA, hi, hai, hK, hks⟩ := hc
  intro T hT Y
  rcases hr T hT Y with ⟨v, st₀, t, T', L, h0, Y', hL, e1, e2, ⟨⟨r, M', hv, hq, hP'⟩, hF⟩, hgo⟩ | ⟨q, st₀, t, T', L, E, ce, h0, Y', hL, e1, e2, ⟨⟨M', hq, hP'⟩, hF⟩, hce, hcv, hcl, hgo⟩
  · cases hv
    obtain ⟨k1, k2, k3⟩ := vx_keep h0 e1 hS (fun _ _ h => h) (fun _ h => h) hL hF
    obtain ⟨t2, a1, b1⟩ := hq la p e s m args below meth c D ad cy A hc' T'.heap (locs ++ L) ls (cells + mc) (slots + ms) (by rw [e1]; exact hP') k3 hl ha hb T' rfl Y'
    refine ⟨t2, hgo t2 ?_, b1⟩
    cases r <;> exact a1
  · obtain ⟨k1, k2, k3⟩ := vx_keep h0 e1 hS (fun _ _ h => h) (fun _ h => h) hL hF
    obtain ⟨pre, suf, x, i, len, ehh, hE, hpre, hcov, hx0, hlk2, hcast, hdec, hin, hk⟩ := hq
    obtain ⟨het1, hnc⟩ := het
    have kk : W p la e R s m args below meth c T'.heap (locs ++ L) (cells + mc) (slots + ms) (vx_MQ below (zQc D ad cy A Q) (zXc D ad cy A X) args s R.cells R.slots A) (F0 m x.2.2.1 ls [.ref q]) := by
      rcases hdec with ⟨k, hki, hd, rfl⟩ | ⟨hd, rfl⟩
      · exact lv_astore_n hx hcb hd hki (zLR_has hl) hin rfl (fun ls' h' => hk la p e s m args below meth c D ad cy A hc' T'.heap (locs ++ L) ls' (cells + mc) (slots + ms) (by rw [e1]; exact hP') k3 (zLR_nil h') ha hb)
      · exact lv_astore hx hcb hd (zLR_has hl) hin rfl (fun ls' h' => hk la p e s m args below meth c D ad cy A hc' T'.heap (locs ++ L) ls' (cells + mc) (slots + ms) (by rw [e1]; exact hP') k3 (zLR_nil h') ha hb)
    have hcat := vx_catch (p := p) (l := la) (e := e) (R := R) (s := s) (m := m) (args := args) (below := below) (meth := meth) (c := c) (H := T'.heap) (locs := locs ++ L) (cells := cells + mc) (slots := slots + ms) (ls := ls) (rest := st.map (zC ad)) (pc := pc) (E := E) (ce := ce) (q := q) (own := y.cls) (name := E) hown (tableOf pre) ⟨x.1, x.2.1, x.2.2.1, x.2.2.2⟩ (tableOf suf)
      (by rw [het1, ehh]; unfold tableOf; rw [List.map_append, List.map_cons]) (fun z hz => by
        unfold tableOf at hz
        obtain ⟨z0, hz0, rfl⟩ := List.mem_map.mp hz
        obtain ⟨hne, N, hN, hEN, hl1⟩ := hpre z0 hz0
        exact Or.inr ⟨hne, N, hts _ hl1, hnc E hE N hN hEN⟩) hcov hx0 (hts _ hlk2) (hks.nest (args := args) hcast) (by rw [e1]; exact hce) hcv hcl kk
    obtain ⟨t2, a1, b1⟩ := hcat T' rfl Y'
    exact ⟨t2, hgo.trans a1, b1⟩
theorem zj_callVH {hh : List (Nat × Nat × Nat × Nat)} {y' : MethodName} {cc' : ByteArray} {nL' idx k a' b' : Nat} {ret' : Option FieldType} {R' : Room} {vs : List Value} (hn : pc + 3 = n) (hd : decode cc pc = .ok (.invokevirtual idx, 3)) (S : zSv y.cls idx y' cc' nL' ret' vs.length) (hR : R'.frames + 1 ≤ R.frames ∧ 8 + (nL' + 11) + R'.locals ≤ R.locals) (hk : k < 133) (hcl : (vwCl[zTy k]?).map (fun q => q.1) = some y'.cls) (hst : zSum st ≤ 8) (ha9 : R'.cells + a' ≤ a) (hb9 : R'.slots + b' ≤ b) (hw : zSum vs + 1 ≤ nL')
    (hJ : zJ y' cc' nL' ret' R' (fun r M' => zJG (zGH hh) y cc nL ret R Q X a' b' n l (zPush r st) M') (fun E M' => zHl hh y cc nL ret R Q X a' b' pc E M') R'.cells R'.slots 0 (zEnt nL' (.ref k :: vs)) [] M) : zJG (zGH hh) y cc nL ret R Q X a b pc l (vs.reverse ++ .ref k :: st) M := by
  subst hn
  intro la p e s m args below meth c D ad cy A hc H locs ls cells slots hP hS hl ha hb
  obtain ⟨hf, hx, hcb, hr, hml, hown, hts, hlk, het, hA, hi, hai, hK, hks⟩ := id hc
  obtain ⟨S1, S2, S3, S4, S5, S6, S7⟩ := S
  have hM := zT_met S7 (by show (1 + zSum vs) ≤ nL'; omega) hJ la hf D ad cy A hi hai
  obtain ⟨q, hq, hqc⟩ : ∃ q, vwCl[zTy k]? = some q ∧ q.1 = y'.cls := by
    cases h9 : vwCl[zTy k]? with
    | none => rw [h9] at hcl; cases hcl
    | some q => rw [h9] at hcl; exact ⟨q, rfl, Option.some.inj hcl⟩
  have hci : zTy k < 20 := by
    have := (List.getElem?_eq_some_iff.mp hq).1
    have h10 : vwCl.length = 10 := rfl
    omega
  obtain ⟨cell, g1, g2, g3⟩ := va_recv hK hP hq (q0 := k) (by rw [zWl_get hk, zE_obj rfl hci])
  rw [hqc] at g3
  have ok : ∀ w ∈ zTB, w.before args s = true := hts
  have cw : CallW R s args y.cls y'.cls idx y' cc' nL' ret' (zWs y' cc' nL' ret') R' R'.cells R'.slots vs.length :=
    ⟨callB_of vs.length ok (zWs_good S5) rfl rfl rfl (ok _ S4) (ok _ S1) S6 hR, ok _ S2, ok _ S3⟩
  refine zvxH (a' := a') (b' := b') (a9 := (Value.ref (ad k) :: vs.map (zC ad)).toArray) (vx_runV ⟨hx, hcb, hml, hown, ok⟩ hM cw ⟨zPc_blind, ⟨cell, g1, g2, g3⟩, fun U hU hW => zPc_at (vs := .ref k :: vs) hP hS hA hK hks hU hW⟩ rfl (by simp) hl.1 ?_ (lv_room (by rw [zSum_map]; exact hst)) hd ⟨by omega, by omega⟩) hc hS hl (by omega) (by omega)
  show List.map (zC ad) (vs.reverse ++ .ref k :: st) = (vs.map (zC ad)).reverse ++ .ref (ad k) :: st.map (zC ad)
  rw [List.map_append, List.map_reverse]
  rfl
/-- a method with a table, by its name -/
def zWsW (y : MethodName) (cc : ByteArray) (nL : Nat) (ret : Option FieldType) (hh : List (Nat × Nat × Nat × Nat)) : List Cond := Cond.codeWith y cc nL ret hh :: zTB
theorem zWsW_good {hh : List (Nat × Nat × Nat × Nat)} (h : Cond.codeWith y cc nL ret hh ∈ zTB) : GoodIn zTB (zWsW y cc nL ret hh) := by
  intro w hw
  have hm : w ∈ zTB := by
    rcases List.mem_cons.mp hw with rfl | q
    · exact h
    · exact q
  exact ⟨hm, good_of_word (List.mem_filter.mp hm).2⟩
def zPcW (vs : List Value) (M : zM) (D : va_G) (ad : Nat → Nat) (cy : Nat → ClassId) (A : Nat → Prop) : Array Value → State → Prop := fun as U => zPc vs M D ad cy A as U ∧ zNcs U
theorem zPcW_blind {vs : List Value} {D : va_G} {ad : Nat → Nat} {cy : Nat → ClassId} {A : Nat → Prop} : FrameBlind (zPcW vs M D ad cy A) := by
  intro a U g mk h
  exact ⟨zPc_blind a U g mk h.1, h.2.moved (Vm.Alike.refl U.vm)⟩
theorem zT_metW {hh : List (Nat × Nat × Nat × Nat)} {vs : List Value} (hy : plainName y.cls = true) (hw : zSum vs ≤ nL) (hJ : zJG (zGH hh) y cc nL ret R Q X R.cells R.slots 0 (zEnt nL vs) [] M) (la : Launch) (hf : la.flags = flags0) (D : va_G) (ad : Nat → Nat) (cy : Nat → ClassId) (A : Nat → Prop) (hi : ∀ i j, i < 133 → j < 133 → ad i = ad j → i = j) (hai : ∀ i, i < 133 → A (ad i)) :
    vx_Met la y (zWsW y cc nL ret hh) R (zPcW vs M D ad cy A) (zQc D ad cy A Q) (zXc D ad cy A X) R.cells R.slots A := by
  refine vx_ofWH hy rfl ?_
  intro p e s m args below meth c s₁ B hml hv
  obtain ⟨⟨rfl, hP, hK, hks, hA⟩, hnc⟩ := hv
  have hts := atoms_spec (ws := zWsW y cc nL ret hh) B.pre
  have het := vx_table (x := y) B (hts _ List.mem_cons_self)
  have hl := lv_entry (vs.map (zC ad)) (n := nL) (by rw [zSl_len]; exact hw)
  rw [lg_entry_eq]
  generalize (lg_sl (vs.map (zC ad)) ++ List.replicate (nL - (lg_sl (vs.map (zC ad))).length) Slot.unset).toArray = ls at hl ⊢
  refine hJ la p e s m _ below meth c D ad cy A ⟨hf, B.exec, B.bytes, B.returns, hml, findClass_of_methodNamed B.named, fun w h => hts w (List.mem_cons_of_mem _ h), B.notSynchronized, ⟨het, hnc⟩, hA, hi, hai, hK, hks⟩ s.heap [] ls 0 0 hP va_S.rf ⟨hl.1, hl.2.1, fun i v h => ?_⟩ (by omega) (by omega)
  have := hl.2.2 _ (zEnt_in (ad := ad) vs nL 0 i v h)
  simpa using this
def zSw (own : String) (idx : Nat) (x : MethodName) (code : ByteArray) (nl : Nat) (ret : Option FieldType) (hh : List (Nat × Nat × Nat × Nat)) (n : Nat) : Prop := Cond.methodLink own idx x ∈ zTB ∧ Cond.static x ∈ zTB ∧ Cond.initialized x.cls ∈ zTB ∧ Cond.codeWith x code nl ret hh ∈ zTB ∧ (x.cls ≠ "java/lang/invoke/MethodHandle" ∧ x.cls ≠ "java/lang/invoke/VarHandle" ∧ (parseMethodDescriptor x.desc).map (fun d => d.parameters.length) = some n) ∧ plainName x.cls = true
theorem zj_callSW {hh : List (Nat × Nat × Nat × Nat)} {y' : MethodName} {cc' : ByteArray} {nL' idx a' b' : Nat} {ret' : Option FieldType} {R' : Room} {vs : List Value} (hn : pc + 3 = n) (hd : decode cc pc = .ok (.invokestatic idx, 3)) (S : zSw y.cls idx y' cc' nL' ret' hh vs.length) (hR : R'.frames + 1 ≤ R.frames ∧ 8 + (nL' + 11) + R'.locals ≤ R.locals) (hst : zSum st ≤ 8) (ha9 : R'.cells + a' ≤ a) (hb9 : R'.slots + b' ≤ b) (hw : zSum vs ≤ nL')
    (hJ : zJG (zGH hh) y' cc' nL' ret' R' (fun r M' => zJG G y cc nL ret R Q X a' b' n l (zPush r st) M') X R'.cells R'.slots 0 (zEnt nL' vs) [] M) (hG : zGe G) (hN : ∀ et ad A s, G et ad A s → zNcs s) : zJG G y cc nL ret R Q X a b pc l (vs.reverse ++ st) M := by
  subst hn
  intro la p e s m args below meth c D ad cy A hc H locs ls cells slots hP hS hl ha hb
  obtain ⟨hf, hx, hcb, hr, hml, hown, hts, hlk, het, hA, hi, hai, hK, hks⟩ := id hc
  obtain ⟨S1, S2, S4, S5, S6, S7⟩ := S
  have hM := zT_metW S7 hw hJ la hf D ad cy A hi hai
  have ok : ∀ w ∈ zTB, w.before args s = true := hts
  have cw : vx_CSW R s args y.cls idx y' cc' nL' ret' hh (zWsW y' cc' nL' ret' hh) R' R'.cells R'.slots vs.length :=
    ⟨⟨rfl, rfl, hR.1, hR.2, pay_in ok (zWsW_good S5), List.mem_cons_self⟩, ok _ S5, ok _ S4, ⟨S6.1, S6.2.1⟩, fun sig h => by
      have h2 := S6.2.2
      rw [h] at h2
      exact (Option.some.inj h2).symm, ok _ S1, ok _ S2⟩
  refine zvx hG (a' := a') (b' := b') (a9 := (vs.map (zC ad)).toArray) (vx_runSX ⟨hx, hcb, hml, hown, ok⟩ hM cw ⟨zPcW_blind, fun U hU hW => ⟨zPc_at (vs := vs) hP hS hA hK hks hU hW, (hN _ _ _ _ het).moved hW.alike⟩⟩ rfl (by simp) hl.1 ?_ (lv_room (by rw [zSum_map]; exact hst)) hd ⟨by omega, by omega⟩) hc hS hl (by omega) (by omega)
  show List.map (zC ad) (vs.reverse ++ st) = (vs.map (zC ad)).reverse ++ st.map (zC ad)
  rw [List.map_append, List.map_reverse]
/-- the script -/
theorem zj_slen {L : Nat} {xs : Nat → Int32} (hn : pc + 1 = n) (hd : decode cc pc = .ok (.arraylength, 1)) (k : zJG (zGL L xs) y cc nL ret R Q X a b n l (.int (Int32.ofNat L) :: st) M) : zJG (zGL L xs) y cc nL ret R Q X a b pc l (.ref 800 :: st) M := by
  subst hn
  intro la p e s m args below meth c D ad cy A hc H locs ls cells slots hP hS hl ha hb
  obtain ⟨hf, hx, hcb, hr, hml, hown, hts, hlk, het, hA, hi, hai, hK, hks⟩ := id hc
  obtain ⟨-, -, hX, hbl, hbA⟩ := het
  exact va_slen hx hcb hX hbl hbA hS hd (k la p e s m args below meth c D ad cy A hc H locs ls cells slots hP hS hl ha hb)
theorem zj_sld {L : Nat} {xs : Nat → Int32} {i : Int32} (hn : pc + 1 = n) (hd : decode cc pc = .ok (.iaload, 1)) (hin : vp_in i L) (k : zJG (zGL L xs) y cc nL ret R Q X a b n l (.int (xs i.toNatClampNeg) :: st) M) : zJG (zGL L xs) y cc nL ret R Q X a b pc l (.int i :: .ref 800 :: st) M := by
  subst hn
  intro la p e s m args below meth c D ad cy A hc H locs ls cells slots hP hS hl ha hb
  obtain ⟨hf, hx, hcb, hr, hml, hown, hts, hlk, het, hA, hi, hai, hK, hks⟩ := id hc
  obtain ⟨-, -, hX, hbl, hbA⟩ := het
  exact va_sld hx hcb hX hbl hbA hS hin hd (k la p e s m args below meth c D ad cy A hc H locs ls cells slots hP hS hl ha hb)
theorem zj_tableOut {dflt lo hi : Int} {offs : Array Int} {len : Nat} {x : Int32} {tgt : Nat} (hd : decode cc pc = .ok (.tableswitch dflt lo hi offs, len)) (h : x.toInt < lo ∨ hi < x.toInt) (ht : (pc : Int) + dflt = (tgt : Int)) (k : zJG G y cc nL ret R Q X a b tgt l st M) : zJG G y cc nL ret R Q X a b pc l (.int x :: st) M := by
  intro la p e s m args below meth c D ad cy A hc H locs ls cells slots hP hS hl ha hb
  obtain ⟨hf, hx, hcb, hr, hml, hown, hts, hlk, het, hA, hi, hai, hK, hks⟩ := id hc
  exact lv_tableOut hx hcb hd h ht (k la p e s m args below meth c D ad cy A hc H locs ls cells slots hP hS hl ha hb)
theorem zj_tableIn {dflt lo hi : Int} {offs : Array Int} {len : Nat} {x : Int32} {off : Int} {tgt : Nat} (hd : decode cc pc = .ok (.tableswitch dflt lo hi offs, len)) (h1 : ¬ x.toInt < lo) (h2 : ¬ hi < x.toInt) (ho : offs[(x.toInt - lo).toNat]? = some off) (ht : (pc : Int) + off = (tgt : Int)) (k : zJG G y cc nL ret R Q X a b tgt l st M) : zJG G y cc nL ret R Q X a b pc l (.int x :: st) M := by
  intro la p e s m args below meth c D ad cy A hc H locs ls cells slots hP hS hl ha hb
  obtain ⟨hf, hx, hcb, hr, hml, hown, hts, hlk, het, hA, hi9, hai, hK, hks⟩ := id hc
  exact lv_tableIn hx hcb hd h1 h2 ho ht (k la p e s m args below meth c D ad cy A hc H locs ls cells slots hP hS hl ha hb)
end ZL
