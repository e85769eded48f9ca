/-! CONSTRUCTORS: a judgement over worlds that grow -/
abbrev zw : Type := (Nat → ClassId) → va_W
def zNx (la : Launch) (y : MethodName) (cc : ByteArray) (nL : Nat) (p : Program) (s : State) (m : MethodId) (args : Array Value) (meth : Method) (c : Code) (D : va_G) (cy : Nat → ClassId) (A : Nat → Prop) : Prop :=
  p.tables.exec = Jvm.exec ∧ c.code = cc ∧ meth.sig.returnType = none ∧ c.maxLocals = nL ∧ s.vm.findClass y.cls = some m.cls ∧ (∀ w ∈ zTB, w.before args s = true) ∧ meth.locks = false ∧ meth.name = "<init>" ∧ (∀ q, s.heap.size ≤ q → A q) ∧ va_K D vwCl (zTys cy) s ∧ (∀ w ∈ zNl, va_Nw w s) ∧ va_AO "RepairAuction$Ring" s
def zQN (D : va_G) (cy : Nat → ClassId) (A : Nat → Prop) (Q : zw → Prop) : Array Value → State → Outcome → State → Prop := va_Qv (fun w => Q w) (fun w t => va_P D vwCl (w cy) t.heap ∧ va_D A (w cy)) A
def zN (y : MethodName) (cc : ByteArray) (nL : Nat) (R : Room) (Q : zw → Prop) (a b pc : Nat) (l : List (Option Value)) (st : List Value) (w : zw) : Prop :=
  ∀ (la : Launch) (p : Program) (e : Env) (s : State) (m : MethodId) (args : Array Value) (below : List Frame) (meth : Method) (c : Code) (D : va_G) (cy : Nat → ClassId) (A : Nat → Prop),
    zNx la y cc nL p s m args meth c D cy A →
    ∀ (H : Heap) (locs : List Loc) (ls : Array Slot) (cells slots : Nat), va_P D vwCl (w cy) H → va_D A (w cy) → va_S A s.heap H locs → zLR id ls nL l → cells + a ≤ R.cells → slots + b ≤ R.slots →
      W p la e R s m args below meth c H locs cells slots (MQ below (zQN D cy A Q) args s R.cells R.slots A) (F0 m pc ls st)
theorem zC_id (v : Value) : zC id v = v := by cases v <;> rfl
section ZN
variable {y : MethodName} {cc : ByteArray} {nL : Nat} {R : Room} {Q : zw → Prop} {a b pc n : Nat} {l t : List (Option Value)} {st : List Value} {w : zw}
theorem zn_aload_n {i : Fin 4} {x : Nat} (hn : pc + 1 = n) (hd : decode cc pc = .ok (.aload_n i, 1)) (hl : l[i.val]? = some (some (.ref x))) (k : zN y cc nL R Q a b n l (.ref x :: st) w) : zN y cc nL R Q a b pc l st w := by
  subst hn
  intro la p e s m args below meth c D cy A hc H locs ls cells slots hP hD hS hl9 ha hb
  obtain ⟨hx, hcb, -⟩ := id hc
  exact lv_aload_n hx hcb hd rfl (zLR_at hl9 (v := .ref x) hl) (k la p e s m args below meth c D cy A hc H locs ls cells slots hP hD hS hl9 ha hb)
theorem zn_iload_n {i : Fin 4} {x : Int32} (hn : pc + 1 = n) (hd : decode cc pc = .ok (.iload_n i, 1)) (hl : l[i.val]? = some (some (.int x))) (k : zN y cc nL R Q a b n l (.int x :: st) w) : zN y cc nL R Q a b pc l st w := by
  subst hn
  intro la p e s m args below meth c D cy A hc H locs ls cells slots hP hD hS hl9 ha hb
  obtain ⟨hx, hcb, -⟩ := id hc
  exact lv_iload_n hx hcb hd rfl (zLR_at hl9 (v := .int x) hl) (k la p e s m args below meth c D cy A hc H locs ls cells slots hP hD hS hl9 ha hb)
theorem zn_iconst {i : Int} {v : Int32} (hn : pc + 1 = n) (hd : decode cc pc = .ok (.iconst i, 1)) (hv : Int32.ofInt i = v) (k : zN y cc nL R Q a b n l (.int v :: st) w) : zN y cc nL R Q a b pc l st w := by
  subst hn
  intro la p e s m args below meth c D cy A hc H locs ls cells slots hP hD hS hl9 ha hb
  obtain ⟨hx, hcb, -⟩ := id hc
  exact lv_iconst hx hcb hd hv (k la p e s m args below meth c D cy A hc H locs ls cells slots hP hD hS hl9 ha hb)
theorem zn_bipush {i : Int} {v : Int32} (hn : pc + 2 = n) (hd : decode cc pc = .ok (.bipush i, 2)) (hv : (Int8.ofInt i).toInt32 = v) (k : zN y cc nL R Q a b n l (.int v :: st) w) : zN y cc nL R Q a b pc l st w := by
  subst hn
  intro la p e s m args below meth c D cy A hc H locs ls cells slots hP hD hS hl9 ha hb
  obtain ⟨hx, hcb, -⟩ := id hc
  exact lv_bipush hx hcb hd hv (k la p e s m args below meth c D cy A hc H locs ls cells slots hP hD hS hl9 ha hb)
theorem zn_sipush {i : Int} {v : Int32} (hn : pc + 3 = n) (hd : decode cc pc = .ok (.sipush i, 3)) (hv : (Int16.ofInt i).toInt32 = v) (k : zN y cc nL R Q a b n l (.int v :: st) w) : zN y cc nL R Q a b pc l st w := by
  subst hn
  intro la p e s m args below meth c D cy A hc H locs ls cells slots hP hD hS hl9 ha hb
  obtain ⟨hx, hcb, -⟩ := id hc
  exact lv_sipush hx hcb hd hv (k la p e s m args below meth c D cy A hc H locs ls cells slots hP hD hS hl9 ha hb)
theorem zn_imul {x z v : Int32} (hn : pc + 1 = n) (hd : decode cc pc = .ok (.imul, 1)) (hv : x * z = v) (k : zN y cc nL R Q a b n l (.int v :: st) w) : zN y cc nL R Q a b pc l (.int z :: .int x :: st) w := by
  subst hn; subst hv
  intro la p e s m args below meth c D cy A hc H locs ls cells slots hP hD hS hl9 ha hb
  obtain ⟨hx, hcb, -⟩ := id hc
  exact lv_imul hx hcb hd (k la p e s m args below meth c D cy A hc H locs ls cells slots hP hD hS hl9 ha hb)
theorem zn_dup {x : Nat} (hn : pc + 1 = n) (hd : decode cc pc = .ok (.dup, 1)) (k : zN y cc nL R Q a b n l (.ref x :: .ref x :: st) w) : zN y cc nL R Q a b pc l (.ref x :: st) w := by
  subst hn
  intro la p e s m args below meth c D cy A hc H locs ls cells slots hP hD hS hl9 ha hb
  obtain ⟨hx, hcb, -⟩ := id hc
  exact lv_dup hx hcb hd rfl (k la p e s m args below meth c D cy A hc H locs ls cells slots hP hD hS hl9 ha hb)
theorem zn_return (hd : decode cc pc = .ok (.return_, 1)) (hQ : Q w) : zN y cc nL R Q a b pc l [] w := by
  intro la p e s m args below meth c D cy A hc H locs ls cells slots hP hD hS hl9 ha hb
  obtain ⟨hx, hcb, hr, hml, hown, hts, hlk, hin, hA, hK, hNl, hAO⟩ := id hc
  refine W.widen (k := R.cells) (n := R.slots) (by omega) (by omega) ?_
  exact W.vret hx hcb hr (fun t ht hW => ⟨⟨w, rfl, hQ, by rw [ht]; exact hP, hD⟩, hS.F ht⟩) hS.2.2 hd hlk
/-- a new object -/
theorem zn_new {idx ci N : Nat} {C : String} {T : u_T} {ty : Nat → FieldType} {fs : List Value} (hn : pc + 3 = n) (hd : decode cc pc = .ok (.new idx, 3)) (hin : ∀ w ∈ u_ws C T N, w ∈ zTB) (hty : ∀ k, k < N → parseFieldDescriptor (T k).2.2.1 = some (ty k)) (h1 : Cond.classLink y.cls idx C ∈ zTB) (h2 : Cond.instantiable C N ∈ zTB) (h3 : Cond.initialized C ∈ zTB) (hc9 : vwCl[ci]? = some (C, T, N)) (hfs : ∀ j, j < N → defaultValue (ty j) = vp_V fs j) {a' b' : Nat} (ha9 : 1 + a' ≤ a) (hb9 : N + b' ≤ b)
    (k : ∀ q, zN y cc nL R Q a' b' n l (.ref q :: st) (fun cy => w cy ++ [(q, .inr (ci, fs))])) : zN y cc nL R Q a b pc l st w := by
  subst hn
  intro la p e s m args below meth c D cy A hc H locs ls cells slots hP hD hS hl9 ha hb
  obtain ⟨hx, hcb, hr, hml, hown, hts, hlk, hin9, hA, hK, hNl, hAO⟩ := id hc
  exact va_new hx hcb hts hin ty hty hown (hts _ h1) (hts _ h2) (hts _ h3) hK hP hD hS hA hc9 hfs (by omega) (by omega) hd (fun q H1 hP1 hD1 hS1 => k q la p e s m args below meth c D cy A hc H1 locs ls (cells + 1) (slots + N) hP1 hD1 hS1 hl9 (by omega) (by omega))
/-- a field written -/
theorem zn_putF {idx q0 a0 ci j N : Nat} {C ref : String} {T : u_T} {ty0 : Nat → FieldType} {fs : List Value} {ty : FieldType} {v : Value} {w' : zw} (hn : pc + 3 = n) (hd : decode cc pc = .ok (.putfield idx, 3)) (hin : ∀ w ∈ u_ws C T N, w ∈ zTB) (hty : ∀ k, k < N → parseFieldDescriptor (T k).2.2.1 = some (ty0 k)) (hnm : ∀ a, a < N → ∀ b, b < N → a ≠ b → (T a).2.1 ≠ (T b).2.1) (he : ∀ cy, (w cy)[q0]? = some (a0, .inr (ci, fs))) (hc9 : vwCl[ci]? = some (C, T, N)) (hj : j < N) (h1 : Cond.fieldLink y.cls idx ref (T j).2.1 (T j).2.2.1 ∈ zTB) (href : (T j).1 = ref) (hfin : (T j).2.2.2 = true) (hdecl : (T j).1 = y.cls) (hp : parseFieldDescriptor (T j).2.2.1 = some ty) (hnr : narrow ty v = v) (hft : fits ty v = true) (hl9 : j < fs.length) (hw : ∀ cy, (w cy).set q0 (a0, .inr (ci, fs.set j v)) = w' cy)
    (k : zN y cc nL R Q a b n l st w') : zN y cc nL R Q a b pc l (v :: .ref a0 :: st) w := by
  subst hn
  subst href
  intro la p e s m args below meth c D cy A hc H locs ls cells slots hP hD hS hl ha hb
  obtain ⟨hx, hcb, hr, hml, hown, hts, hlk, hin9, hA, hK, hNl, hAO⟩ := id hc
  refine va_putF hx hcb hts hin ty0 hty hnm hown hK hP hD hS q0 (he cy) hc9 j hj (hts _ h1) (fun _ h => h) hfin hin9 hdecl hp hnr hft hl9 hd (fun H1 locs1 hP1 hD1 hS1 => ?_)
  rw [hw cy] at hP1 hD1
  exact k la p e s m args below meth c D cy A hc H1 locs1 ls cells slots hP1 hD1 hS1 hl ha hb
end ZN
section ZN2
variable {y : MethodName} {cc : ByteArray} {nL : Nat} {R : Room} {Q : zw → Prop} {a b pc n : Nat} {l t : List (Option Value)} {st : List Value} {w : zw}
theorem zSum_ge {st : List Value} : (st.map fun v => v.category).sum = zSum st := rfl
theorem zn_objInit {idx x : Nat} (hn : pc + 3 = n) (hd : decode cc pc = .ok (.invokespecial idx, 3)) (h1 : Cond.methodLink y.cls idx Lib.objectInit ∈ zTB) (h2 : Cond.instanceMethod Lib.objectInit ∈ zTB) (h3 : Cond.code Lib.objectInit ⟨#[0xb1]⟩ 1 none ∈ zTB) (hR : 1 ≤ R.frames ∧ 20 ≤ R.locals) (hst : zSum st ≤ 8) (k : zN y cc nL R Q a b n l st w) : zN y cc nL R Q a b pc l (.ref x :: st) w := by
  subst hn
  intro la p e s m args below meth c D cy A hc H locs ls cells slots hP hD hS hl ha hb
  obtain ⟨hx, hcb, hr, hml, hown, hts, hlk, hin, hA, hK, hNl, hAO⟩ := id hc
  refine W.objInit hx hcb hown (hts _ h1) (hts _ h2) (hts _ h3) rfl (by rw [hml]; exact hl.1) rfl hd hR.1 ?_ ?_
  · show 2 * 0 + zSum st + 12 ≤ R.locals
    omega
  · refine W.eq (g2 := F0 m (pc + 3) ls st) rfl ?_
    exact k la p e s m args below meth c D cy A hc H locs ls cells slots hP hD hS hl ha hb
theorem zn_imax {idx : Nat} {x z v : Int32} (hn : pc + 3 = n) (hd : decode cc pc = .ok (.invokestatic idx, 3)) (S : zSx y.cls idx Lib.Math.max.name Lib.Math.max.code 2 (some .int)) (hR : 1 ≤ R.frames ∧ 21 ≤ R.locals) (hst : zSum st ≤ 8) (hv : (if x < z then z else x) = v) (k : zN y cc nL R Q a b n l (.int v :: st) w) : zN y cc nL R Q a b pc l (.int z :: .int x :: st) w := by
  subst hn; subst hv
  intro la p e s m args below meth c D cy A hc H locs ls cells slots hP hD hS hl ha hb
  obtain ⟨hx, hcb, hr, hml, hown, hts, hlk, hin, hA, hK, hNl, hAO⟩ := id hc
  refine va_mmax hx hcb (hml.trans hl.1.symm) hown (hts _ S.1) (hts _ S.2.1) (hts _ S.2.2.1) (hts _ S.2.2.2) hR.1 (by rw [zSum_ge]; omega) (by omega) (by omega) hd ?_
  exact k la p e s m args below meth c D cy A hc H locs ls cells slots hP hD hS hl ha hb
/-- a new row -/
theorem zn_newa {atype : ArrayType} {ty : FieldType} {t9 N' : Nat} {a0 : vp_A} {v : Int32} (hn : pc + 2 = n) (hd : decode cc pc = .ok (.newarray atype, 2)) (h1 : Cond.arrayClass (newarray.typeOf atype) ∈ zTB) (hty : newarray.typeOf atype = ty) (ht : ∀ cy, (zTys cy)[t9]? = some (cy t9, ty)) (hra : ∀ U cA, va_RA U cA ty → U.vm.findClass ("[" ++ ty.toString) = some cA) (ha0 : ∀ cA : ClassId, vp_cell cA a0 = arrV cA N' (fun _ => defaultValue ty)) (hv : ¬ v < 0) (hN : v.toNatClampNeg = N') (hbytes : N' * componentBytes ty ≤ 536870912) {a' b' : Nat} (ha9 : 1 + a' ≤ a) (hb9 : N' + b' ≤ b)
    (k : ∀ q, zN y cc nL R Q a' b' n l (.ref q :: st) (fun cy => w cy ++ [(q, .inl (cy t9, a0))])) : zN y cc nL R Q a b pc l (.int v :: st) w := by
  subst hn
  intro la p e s m args below meth c D cy A hc H locs ls cells slots hP hD hS hl ha hb
  obtain ⟨hx, hcb, hr, hml, hown, hts, hlk, hin, hA, hK, hNl, hAO⟩ := id hc
  refine va_newa hx hcb (hts _ h1) hty hK hP hD hS hA ha0 hv hN hbytes (by omega) (by omega) hd (fun q cA H1 hK1 hP1 hD1 hS1 => ?_)
  have e1 := hra _ _ (hK.2 t9 _ (ht cy)).2
  have e2 := hra _ _ (hK1.2 5 (cA, ty) rfl).2
  have e3 : cy t9 = cA := Option.some.inj (e1.symm.trans e2)
  subst e3
  exact k q la p e s m args below meth c D cy A hc H1 locs ls (cells + 1) (slots + N') hP1 hD1 hS1 hl (by omega) (by omega)
/-- a constructor called -/
theorem zN_met {vs : List Value} (hy : plainName y.cls = true) (hw : zSum vs ≤ nL) (hin : y.name = "<init>") (hJ : zN y cc nL R Q R.cells R.slots 0 (zEnt nL vs) [] w) (la : Launch) (D : va_G) (cy : Nat → ClassId) (A : Nat → Prop) :
    Met la y (zWs y cc nL none) R (va_Pc vs (fun U => va_P D vwCl (w cy) U.heap ∧ va_D A (w cy) ∧ va_K D vwCl (zTys cy) U ∧ (∀ q, U.heap.size ≤ q → A q) ∧ (∀ w ∈ zNl, va_Nw w U) ∧ va_AO "RepairAuction$Ring" U)) (zQN D cy A Q) R.cells R.slots A := by
  refine Met.ofW (cc := cc) (maxL := nL) (ret := none) hy rfl ?_
  intro p e s m args below meth c s₁ B hml hv
  obtain ⟨rfl, hP, hD, hK, hA, hNl, hAO⟩ := hv
  have hts := atoms_spec (ws := zWs y cc nL none) B.pre
  have hl := lv_entry vs (n := nL) (by have := zSl_len (ad := id) vs; rw [show vs.map (zC id) = vs from by simp [show zC id = id from funext zC_id]] at this; rw [this]; exact hw)
  rw [lg_entry_eq]
  generalize (lg_sl vs ++ List.replicate (nL - (lg_sl vs).length) Slot.unset).toArray = ls at hl ⊢
  refine hJ la p e s m _ below meth c D cy A ⟨B.exec, B.bytes, B.returns, hml, findClass_of_methodNamed B.named, fun w h => hts w (List.mem_cons_of_mem _ h), B.notSynchronized, by rw [← hin]; exact (name_of_methodNamed B.named B.method).1, hA, hK, hNl, hAO⟩ s.heap [] ls 0 0 hP hD va_S.rf ⟨hl.1, hl.2.1, fun i v h => ?_⟩ (by omega) (by omega)
  have := zEnt_in (ad := id) vs nL 0 i v h
  rw [show vs.map (zC id) = vs from by simp [show zC id = id from funext zC_id]] at this
  have := hl.2.2 _ this
  simpa using this
end ZN2
def zSi (own : String) (idx : Nat) (x : MethodName) (code : ByteArray) (nl n : Nat) : Prop := (Cond.methodLink own idx x ∈ zTB ∨ ∃ host, Cond.methodLinkNest own idx x host ∈ zNl) ∧ Cond.instanceMethod x ∈ zTB ∧ Cond.initialized x.cls ∈ zTB ∧ Cond.code x code nl none ∈ zTB ∧ (x.cls ≠ "java/lang/invoke/MethodHandle" ∧ x.cls ≠ "java/lang/invoke/VarHandle" ∧ (parseMethodDescriptor x.desc).map (fun d => d.parameters.length) = some n) ∧ plainName x.cls = true ∧ x.name = "<init>"
section ZN3
variable {y : MethodName} {cc : ByteArray} {nL : Nat} {R : Room} {Q : zw → Prop} {a b pc n : Nat} {l t : List (Option Value)} {st : List Value} {w : zw}
theorem zn_blind {vs : List Value} {w : zw} {D : va_G} {cy : Nat → ClassId} {A : Nat → Prop} : FrameBlind (va_Pc vs (fun U => va_P D vwCl (w cy) U.heap ∧ va_D A (w cy) ∧ va_K D vwCl (zTys cy) U ∧ (∀ q, U.heap.size ≤ q → A q) ∧ (∀ w ∈ zNl, va_Nw w U) ∧ va_AO "RepairAuction$Ring" U)) := by
  intro a U g mk h
  obtain ⟨h1, h2, h3, h4, h5, h6, h7⟩ := h
  exact ⟨h1, h2, h3, va_K.moved (u := U) (U := U.calling g mk a) (Vm.Alike.refl U.vm) h4, h5, fun w hw => va_Nw.same (u := U) (U := U.calling g mk a) (zNk_on (List.mem_filter.mp hw).2) rfl (h6 w hw), va_AO.moved (u := U) (U := U.calling g mk a) (Vm.Alike.refl U.vm) h7⟩
theorem zn_call {y' : MethodName} {cc' : ByteArray} {nL' idx q a' b' : Nat} {e9 : va_E} {R' : Room} {vs : List Value} {wr : zw} (hn : pc + 3 = n) (hd : decode cc pc = .ok (.invokespecial idx, 3)) (S : zSi y.cls idx y' cc' nL' vs.length) (hR : R'.frames + 1 ≤ R.frames ∧ 8 + (nL' + 11) + R'.locals ≤ R.locals) (hst : zSum st ≤ 8) (ha9 : R'.cells + a' ≤ a) (hb9 : R'.slots + b' ≤ b) (hw9 : zSum vs + 1 ≤ nL') (hw : ∀ cy, w cy = wr cy ++ [(q, e9)])
    (hJ : zN y' cc' nL' R' (fun w' => zN y cc nL R Q a' b' n l st (fun cy => wr cy ++ w' cy)) R'.cells R'.slots 0 (zEnt nL' (.ref q :: vs)) [] (fun _ => [(q, e9)])) : zN y cc nL R Q a b pc l (vs.reverse ++ .ref q :: st) w := by
  subst hn
  intro la p e s m args below meth c D cy A hc H locs ls cells slots hP hD hS hl ha hb
  obtain ⟨hx, hcb, hr, hml, hown, hts, hlk, hin, hA, hK, hNl, hAO⟩ := id hc
  obtain ⟨S1, S2, S4, S5, S6, S7, S8⟩ := S
  rw [hw cy] at hP hD
  have hlast : (wr cy ++ [(q, e9)])[(wr cy).length]? = some (q, e9) := by simp
  have hP0 : va_P D vwCl [(q, e9)] H := fun k x hx9 => by
    have hz : k < 1 := (List.getElem?_eq_some_iff.mp hx9).1
    rw [show k = 0 by omega] at hx9
    cases hx9
    exact hP _ _ hlast
  have hPr : va_P D vwCl (wr cy) H := fun k x hx9 => hP k x (by rw [List.getElem?_append_left (List.getElem?_eq_some_iff.mp hx9).1]; exact hx9)
  have hDr : va_D A (wr cy) := ⟨fun i j p q h1 h2 h3 => hD.1 i j p q (by rw [List.getElem?_append_left (List.getElem?_eq_some_iff.mp h1).1]; exact h1) (by rw [List.getElem?_append_left (List.getElem?_eq_some_iff.mp h2).1]; exact h2) h3, fun k q h1 => hD.2 k q (by rw [List.getElem?_append_left (List.getElem?_eq_some_iff.mp h1).1]; exact h1)⟩
  have hne : ∀ (k : Nat) (x : Nat × va_E), (wr cy)[k]? = some x → x.1 ≠ q := fun k x h1 h2 => by
    have hk := (List.getElem?_eq_some_iff.mp h1).1
    have := hD.1 k (wr cy).length x (q, e9) (by rw [List.getElem?_append_left hk]; exact h1) hlast h2
    omega
  have hD0 : va_D (va_A [(q, e9)] H.size) [(q, e9)] := by
    refine va_D.self (A := fun _ => True) ⟨fun i j p q h1 h2 _ => ?_, fun _ _ _ => trivial⟩
    have hi : i < 1 := (List.getElem?_eq_some_iff.mp h1).1
    have hj : j < 1 := (List.getElem?_eq_some_iff.mp h2).1
    omega
  have hq : ∀ x, va_A [(q, e9)] H.size x → x = q ∨ H.size ≤ x := fun x h => by
    rcases h with ⟨k, e, h⟩ | h
    · have hz : k < 1 := (List.getElem?_eq_some_iff.mp h).1
      rw [show k = 0 by omega] at h
      cases h
      exact Or.inl rfl
    · exact Or.inr h
  have hF : ∀ x, va_A [(q, e9)] H.size x → A x := fun x h => by
    rcases hq x h with rfl | h
    · exact hD.2 _ _ hlast
    · exact hA x (Nat.le_trans hS.1 h)
  have hM := zN_met S7 (by show 1 + zSum vs ≤ nL'; omega) S8 hJ la D cy (va_A [(q, e9)] H.size)
  have ok : ∀ w ∈ zTB, w.before args s = true := hts
  have hpre : PreS s H (va_Pc (.ref q :: vs) (fun U => va_P D vwCl ((fun _ => [(q, e9)] : zw) cy) U.heap ∧ va_D (va_A [(q, e9)] H.size) ((fun _ => [(q, e9)] : zw) cy) ∧ va_K D vwCl (zTys cy) U ∧ (∀ q9, U.heap.size ≤ q9 → va_A [(q, e9)] H.size q9) ∧ (∀ w ∈ zNl, va_Nw w U) ∧ va_AO "RepairAuction$Ring" U)) (.ref q :: vs) :=
    ⟨zn_blind (w := fun _ => [(q, e9)]) (cy := cy), fun U hU hW => ⟨rfl, by rw [hU]; exact hP0, hD0, va_K.moved hW.alike hK, by rw [hU]; exact fun q9 h => Or.inr h, fun w hw => zNk_warm hW (List.mem_filter.mp hw).2 (hNl w hw), va_AO.moved hW.alike hAO⟩⟩
  have hrun : va_Run p la e R s m args below meth c H locs cells slots R'.cells R'.slots (F0 m pc ls (vs.reverse ++ .ref q :: st)) st (zQN D cy (va_A [(q, e9)] H.size) (fun w' => zN y cc nL R Q a' b' (pc + 3) l st (fun cy => wr cy ++ w' cy)) (Value.ref q :: vs).toArray) (va_A [(q, e9)] H.size) := by
    rcases S1 with S1 | ⟨host, S1⟩
    · exact va_runI ⟨hx, hcb, hml, hown, ok⟩ hM ⟨callB_of vs.length ok (zWs_good S5) rfl rfl rfl (ok _ S4) (ok _ S1) S6 hR, S8, ok _ S2⟩ hpre rfl rfl hl.1 rfl (lv_room hst) hd ⟨by omega, by omega⟩
    · exact va_runIN ⟨hx, hcb, hml, hown, ok⟩ hM ⟨va_cnB vs.length ok (zWs_good S5) rfl rfl rfl (hNl _ S1) (ok _ S4) S6 hR, S8, ok _ S2⟩ hpre rfl rfl hl.1 rfl (lv_room hst) hd ⟨by omega, by omega⟩
  refine va_callv hrun hS (fun x _ h => hF x h) hF (fun w' t9 H1 locs1 ht hvm hpost hB hz hk hS1 => ?_)
  obtain ⟨hB1, hB2⟩ := hB
  rw [ht] at hB1
  refine hpost la p e s m args below meth c D cy A hc H1 locs1 ls (cells + R'.cells) (slots + R'.slots) (va_P.app (fun k x h1 => (hPr k x h1).kept (hk x.1 (hPr k x h1).lt (fun h2 => ?_))) hB1) (va_D.app hDr (hB2.weaken (fun k x _ h2 => hF x.1 h2)) (fun i j x z h1 h2 h3 => ?_)) hS1 hl (by omega) (by omega)
  · rcases hq _ h2 with h3 | h3
    · exact hne k x h1 h3
    · have := (hPr k x h1).lt
      omega
  · rcases hq _ (hB2.2 j z h2) with h4 | h4
    · exact hne i x h1 (h3.trans h4)
    · have := (hPr i x h1).lt
      omega
end ZN3
section ZN4
variable {y : MethodName} {cc : ByteArray} {nL : Nat} {R : Room} {Q : zw → Prop} {a b pc n : Nat} {l t : List (Option Value)} {st : List Value} {w : zw}
theorem zn_put {idx q0 a0 ci j N : Nat} {C ref : String} {T : u_T} {ty0 : Nat → FieldType} {fs : List Value} {ty : FieldType} {v : Value} {w' : zw} (hn : pc + 3 = n) (hd : decode cc pc = .ok (.putfield idx, 3)) (hin : ∀ w ∈ u_ws C T N, w ∈ zTB) (hty : ∀ k, k < N → parseFieldDescriptor (T k).2.2.1 = some (ty0 k)) (hnm : ∀ a, a < N → ∀ b, b < N → a ≠ b → (T a).2.1 ≠ (T b).2.1) (he : ∀ cy, (w cy)[q0]? = some (a0, .inr (ci, fs))) (hc9 : vwCl[ci]? = some (C, T, N)) (hj : j < N) (h1 : Cond.fieldLink y.cls idx ref (T j).2.1 (T j).2.2.1 ∈ zTB) (href : (T j).1 = ref) (hfin : (T j).2.2.2 = false) (hp : parseFieldDescriptor (T j).2.2.1 = some ty) (hnr : narrow ty v = v) (hft : fits ty v = true) (hl9 : j < fs.length) (hw : ∀ cy, (w cy).set q0 (a0, .inr (ci, fs.set j v)) = w' cy)
    (k : zN y cc nL R Q a b n l st w') : zN y cc nL R Q a b pc l (v :: .ref a0 :: st) w := by
  subst hn
  subst href
  intro la p e s m args below meth c D cy A hc H locs ls cells slots hP hD hS hl ha hb
  obtain ⟨hx, hcb, hr, hml, hown, hts, hlk, hin9, hA, hK, hNl, hAO⟩ := id hc
  refine va_put hx hcb hts hin ty0 hty hnm hown hK hP hD hS q0 (he cy) hc9 j hj (hts _ h1) (fun _ h => h) hfin hp hnr hft hl9 hd (fun H1 locs1 hP1 hD1 hS1 => ?_)
  rw [hw cy] at hP1 hD1
  exact k la p e s m args below meth c D cy A hc H1 locs1 ls cells slots hP1 hD1 hS1 hl ha hb
theorem zn_get {idx q0 a0 ci j N : Nat} {C ref : String} {T : u_T} {fs : List Value} {v : Value} (hn : pc + 3 = n) (hd : decode cc pc = .ok (.getfield idx, 3)) (hin : ∀ w ∈ u_ws C T N, w ∈ zTB) (he : ∀ cy, (w cy)[q0]? = some (a0, .inr (ci, fs))) (hc9 : vwCl[ci]? = some (C, T, N)) (hj : j < N) (h1 : Cond.fieldLink y.cls idx ref (T j).2.1 (T j).2.2.1 ∈ zTB) (href : (T j).1 = ref) (hv : fs[j]? = some v) (k : zN y cc nL R Q a b n l (v :: st) w) : zN y cc nL R Q a b pc l (.ref a0 :: st) w := by
  subst hn
  subst href
  intro la p e s m args below meth c D cy A hc H locs ls cells slots hP hD hS hl ha hb
  obtain ⟨hx, hcb, hr, hml, hown, hts, hlk, hin9, hA, hK, hNl, hAO⟩ := id hc
  exact va_get hx hcb hts hin hown hK hP q0 (he cy) hc9 j hj (hts _ h1) (fun _ h => h) hv hd (k la p e s m args below meth c D cy A hc H locs ls cells slots hP hD hS hl ha hb)
theorem zn_iastore {q0 a0 N' : Nat} {f : Nat → Int32} {i x : Int32} {w' : zw} (hn : pc + 1 = n) (hd : decode cc pc = .ok (.iastore, 1)) (he : ∀ cy, (w cy)[q0]? = some (a0, .inl (cy 0, N', .inl f))) (hi : vp_in i N') (hw : ∀ cy, (w cy).set q0 (a0, .inl (cy 0, N', .inl (upd f i.toNatClampNeg x))) = w' cy) (k : zN y cc nL R Q a b n l st w') : zN y cc nL R Q a b pc l (.int x :: .int i :: .ref a0 :: st) w := by
  subst hn
  intro la p e s m args below meth c D cy A hc H locs ls cells slots hP hD hS hl ha hb
  obtain ⟨hx, hcb, hr, hml, hown, hts, hlk, hin9, hA, hK, hNl, hAO⟩ := id hc
  refine va_iast hx hcb hK hP hD hS q0 0 (he cy) rfl hi hd (fun H1 locs1 hP1 hD1 hS1 => ?_)
  rw [hw cy] at hP1 hD1
  exact k la p e s m args below meth c D cy A hc H1 locs1 ls cells slots hP1 hD1 hS1 hl ha hb
/-- the row of kept rings -/
theorem zn_newq {idx N' : Nat} {v : Int32} (hn : pc + 3 = n) (hd : decode cc pc = .ok (.anewarray idx, 3)) (h1 : Cond.classLink y.cls idx "RepairAuction$Ring" ∈ zTB) (hv : ¬ v < 0) (hN : v.toNatClampNeg = N') (hbytes : N' * 4 ≤ 536870912) {a' b' : Nat} (ha9 : 1 + a' ≤ a) (hb9 : N' + b' ≤ b)
    (k : ∀ q, zN y cc nL R Q a' b' n l (.ref q :: st) (fun cy => w cy ++ [(q, .inl (cy 4, N', .inr (.inr (.inr (.inr (fun _ => none))))))])) : zN y cc nL R Q a b pc l (.int v :: st) w := by
  subst hn
  intro la p e s m args below meth c D cy A hc H locs ls cells slots hP hD hS hl ha hb
  obtain ⟨hx, hcb, hr, hml, hown, hts, hlk, hin, hA, hK, hNl, hAO⟩ := id hc
  refine va_newq hx hcb hown (hts _ h1) hAO hK hP hD hS hA hv hN hbytes (by omega) (by omega) hd (fun q cA H1 hK1 hP1 hD1 hS1 => ?_)
  obtain ⟨_, _, _, _, _, e1⟩ := (hK.2 4 _ rfl).2
  obtain ⟨_, _, _, _, _, e2⟩ := (hK1.2 5 (cA, .object "RepairAuction$Ring") rfl).2
  have e3 : cy 4 = cA := Option.some.inj (e1.symm.trans e2)
  subst e3
  exact k q la p e s m args below meth c D cy A hc H1 locs ls (cells + 1) (slots + N') hP1 hD1 hS1 hl (by omega) (by omega)
theorem zn_aastore {q0 qk a0 v0 N' : Nat} {vs : List Value} {f : Nat → Option Nat} {i : Int32} {w' : zw} (hn : pc + 1 = n) (hd : decode cc pc = .ok (.aastore, 1)) (he : ∀ cy, (w cy)[q0]? = some (a0, .inl (cy 4, N', .inr (.inr (.inr (.inr f)))))) (hv : ∀ cy, (w cy)[qk]? = some (v0, .inr (5, vs))) (hi : vp_in i N') (hw : ∀ cy, (w cy).set q0 (a0, .inl (cy 4, N', .inr (.inr (.inr (.inr (va_up f i.toNatClampNeg (some v0))))))) = w' cy) (k : zN y cc nL R Q a b n l st w') : zN y cc nL R Q a b pc l (.ref v0 :: .int i :: .ref a0 :: st) w := by
  subst hn
  intro la p e s m args below meth c D cy A hc H locs ls cells slots hP hD hS hl ha hb
  obtain ⟨hx, hcb, hr, hml, hown, hts, hlk, hin9, hA, hK, hNl, hAO⟩ := id hc
  refine va_astq (r := (RX6, TX6, 10)) hx hcb hK hP hD hS q0 4 qk 5 (he cy) rfl (hv cy) rfl hi hd (fun H1 locs1 hP1 hD1 hS1 => ?_)
  rw [hw cy] at hP1 hD1
  exact k la p e s m args below meth c D cy A hc H1 locs1 ls cells slots hP1 hD1 hS1 hl ha hb
theorem zn_alen {q0 a0 t9 : Nat} {x : vp_A} {ty : FieldType} {v : Int32} (hn : pc + 1 = n) (hd : decode cc pc = .ok (.arraylength, 1)) (he : ∀ cy, (w cy)[q0]? = some (a0, .inl (cy t9, x))) (ht : ∀ cy, (zTys cy)[t9]? = some (cy t9, ty)) (hv : Int32.ofNat x.1 = v) (k : zN y cc nL R Q a b n l (.int v :: st) w) : zN y cc nL R Q a b pc l (.ref a0 :: st) w := by
  subst hn
  intro la p e s m args below meth c D cy A hc H locs ls cells slots hP hD hS hl ha hb
  obtain ⟨hx, hcb, hr, hml, hown, hts, hlk, hin9, hA, hK, hNl, hAO⟩ := id hc
  exact va_alen hx hcb hK hP q0 t9 (he cy) (ht cy) hv hd (k la p e s m args below meth c D cy A hc H locs ls cells slots hP hD hS hl ha hb)
theorem zn_istore1 {v0 o : Option Value} {x : Int32} (hn : pc + 1 = n) (hd : decode cc pc = .ok (.istore_n 1, 1)) (hp : zB2 v0 = false) (hb9 : 1 < nL) (k : zN y cc nL R Q a b n (v0 :: some (.int x) :: t) st w) : zN y cc nL R Q a b pc (v0 :: o :: t) (.int x :: st) w := by
  subst hn
  intro la p e s m args below meth c D cy A hc H locs ls cells slots hP hD hS hl ha hb
  obtain ⟨hx, hcb, -⟩ := id hc
  refine lv_istore_n hx hcb hd rfl (zLR_has hl) hb9 rfl (fun ls' h' => ?_)
  exact k la p e s m args below meth c D cy A hc H locs ls' cells slots hP hD hS (zLR_put1 (l := v0 :: o :: t) (v := .int x) h' (fun j u h h2 => by cases (show j = 0 by omega); exact zB2_cat hp (Option.some.inj h2))) ha hb
theorem zn_goto {off : Int} {tgt : Nat} (hd : decode cc pc = .ok (.goto off, 3)) (ht : (pc : Int) + off = (tgt : Int)) (k : zN y cc nL R Q a b tgt l st w) : zN y cc nL R Q a b pc l st w := by
  intro la p e s m args below meth c D cy A hc H locs ls cells slots hP hD hS hl ha hb
  obtain ⟨hx, hcb, -⟩ := id hc
  exact lv_goto hx hcb hd ht (k la p e s m args below meth c D cy A hc H locs ls cells slots hP hD hS hl ha hb)
theorem zn_icmp_ge {x z : Int32} {off : Int} {tgt : Nat} (hn : pc + 3 = n) (hd : decode cc pc = .ok (.if_icmp .ge off, 3)) (ht : (pc : Int) + off = (tgt : Int)) (kt : z ≤ x → zN y cc nL R Q a b tgt l st w) (kf : ¬ z ≤ x → zN y cc nL R Q a b n l st w) : zN y cc nL R Q a b pc l (.int z :: .int x :: st) w := by
  subst hn
  intro la p e s m args below meth c D cy A hc H locs ls cells slots hP hD hS hl ha hb
  obtain ⟨hx, hcb, -⟩ := id hc
  exact lv_icmp_ge hx hcb hd ht (fun q => kt q la p e s m args below meth c D cy A hc H locs ls cells slots hP hD hS hl ha hb) (fun q => kf q la p e s m args below meth c D cy A hc H locs ls cells slots hP hD hS hl ha hb)
end ZN4
