/-! CONSTRUCTORS: a judgement over worlds that grow -/
abbrev zw : Type := (Nat → ClassId) → va_W
def zNx (la : Launch) (y : MethodName) (cc : ByteArray) (nL : Nat) (p : Program) (s : State) (m : MethodId) (args : Array Value) (meth : Method) (c : Code) (D : va_G) (cy : Nat → ClassId) (A : Nat → Prop) : Prop :=
  p.tables.exec = Jvm.exec ∧ c.code = cc ∧ meth.sig.returnType = none ∧ c.maxLocals = nL ∧ s.vm.findClass y.cls = some m.cls ∧ (∀ w ∈ zTB, w.before args s = true) ∧ meth.locks = false ∧ meth.name = "<init>" ∧ (∀ q, s.heap.size ≤ q → A q) ∧ va_K D vwCl (zTys cy) s ∧ (∀ w ∈ zNl, va_Nw w s) ∧ va_AO "RepairAuction$Ring" s
def zQN (D : va_G) (cy : Nat → ClassId) (A : Nat → Prop) (Q : zw → Prop) : Array Value → State → Outcome → State → Prop := va_Qv (fun w => Q w) (fun w t => va_P D vwCl (w cy) t.heap ∧ va_D A (w cy)) A
def zN (y : MethodName) (cc : ByteArray) (nL : Nat) (R : Room) (Q : zw → Prop) (a b pc : Nat) (l : List (Option Value)) (st : List Value) (w : zw) : Prop :=
  ∀ (la : Launch) (p : Program) (e : Env) (s : State) (m : MethodId) (args : Array Value) (below : List Frame) (meth : Method) (c : Code) (D : va_G) (cy : Nat → ClassId) (A : Nat → Prop),
    zNx la y cc nL p s m args meth c D cy A →
    ∀ (H : Heap) (locs : List Loc) (ls : Array Slot) (cells slots : Nat), va_P D vwCl (w cy) H → va_D A (w cy) → va_S A s.heap H locs → zLR id ls nL l → cells + a ≤ R.cells → slots + b ≤ R.slots →
      W p la e R s m args below meth c H locs cells slots (MQ below (zQN D cy A Q) args s R.cells R.slots A) (F0 m pc ls st)
theorem zC_id (v : Value) : zC id v = v := by cases v <;> rfl
section ZN
variable {y : MethodName} {cc : ByteArray} {nL : Nat} {R : Room} {Q : zw → Prop} {a b pc n : Nat} {l t : List (Option Value)} {st : List Value} {w : zw}
theorem zn_aload_n {i : Fin 4} {x : Nat} (hn : pc + 1 = n) (hd : decode cc pc = .ok (.aload_n i, 1)) (hl : l[i.val]? = some (some (.ref x))) (k : zN y cc nL R Q a b n l (.ref x :: st) w) : zN y cc nL R Q a b pc l st w := by
  subst hn
  intro la p e s m args below meth c D cy A hc H locs ls cells slots hP hD hS hl9 ha hb
  obtain ⟨hx, hcb, -⟩ := id hc
  exact lv_aload_n hx hcb hd rfl (zLR_at hl9 (v := .ref x) hl) (k la p e s m args below meth c D cy A hc H locs ls cells slots hP hD hS hl9 ha hb)
theorem zn_iload_n {i : Fin 4} {x : Int32} (hn : pc + 1 = n) (hd : decode cc pc = .ok (.iload_n i, 1)) (hl : l[i.val]? = some (some (.int x))) (k : zN y cc nL R Q a b n l (.int x :: st) w) : zN y cc nL R Q a b pc l st w := by
  subst hn
  intro la p e s m args below meth c D cy A hc H locs ls cells slots hP hD hS hl9 ha hb
  obtain ⟨hx, hcb, -⟩ := id hc
  exact lv_iload_n hx hcb hd rfl (zLR_at hl9 (v := .int x) hl) (k la p e s m args below meth c D cy A hc H locs ls cells slots hP hD hS hl9 ha hb)
theorem zn_iconst {i : Int} {v : Int32} (hn : pc + 1 = n) (hd : decode cc pc = .ok (.iconst i, 1)) (hv : Int32.ofInt i = v) (k : zN y cc nL R Q a b n l (.int v :: st) w) : zN y cc nL R Q a b pc l st w := by
  subst hn
  intro la p e s m args below meth c D cy A hc H locs ls cells slots hP hD hS hl9 ha hb
  obtain ⟨hx, hcb, -⟩ := id hc
  exact lv_iconst hx hcb hd hv (k la p e s m args below meth c D cy A hc H locs ls cells slots hP hD hS hl9 ha hb)
theorem zn_bipush {i : Int} {v : Int32} (hn : pc + 2 = n) (hd : decode cc pc = .ok (.bipush i, 2)) (hv : (Int8.ofInt i).toInt32 = v) (k : zN y cc nL R Q a b n l (.int v :: st) w) : zN y cc nL R Q a b pc l st w := by
  subst hn
  intro la p e s m args below meth c D cy A hc H locs ls cells slots hP hD hS hl9 ha hb
  obtain ⟨hx, hcb, -⟩ := id hc
  exact lv_bipush hx hcb hd hv (k la p e s m args below meth c D cy A hc H locs ls cells slots hP hD hS hl9 ha hb)
theorem zn_sipush {i : Int} {v : Int32} (hn : pc + 3 = n) (hd : decode cc pc = .ok (.sipush i, 3)) (hv : (Int16.ofInt i).toInt32 = v) (k : zN y cc nL R Q a b n l (.int v :: st) w) : zN y cc nL R Q a b pc l st w := by
  subst hn
  intro la p e s m args below meth c D cy A hc H locs ls cells slots hP hD hS hl9 ha hb
  obtain ⟨hx, hcb, -⟩ := id hc
  exact lv_sipush hx hcb hd hv (k la p e s m args below meth c D cy A hc H locs ls cells slots hP hD hS hl9 ha hb)
theorem zn_imul {x z v : Int32} (hn : pc + 1 = n) (hd : decode cc pc = .ok (.imul, 1)) (hv : x * z = v) (k : zN y cc nL R Q a b n l (.int v :: st) w) : zN y cc nL R Q a b pc l (.int z :: .int x :: st) w := by
  subst hn; subst hv
  intro la p e s m args below meth c D cy A hc H locs ls cells slots hP hD hS hl9 ha hb
  obtain ⟨hx, hcb, -⟩ := id hc
  exact lv_imul hx hcb hd (k la p e s m args below meth c D cy A hc H locs ls cells slots hP hD hS hl9 ha hb)
theorem zn_dup {x : Nat} (hn : pc + 1 = n) (hd : decode cc pc = .ok (.dup, 1)) (k : zN y cc nL R Q a b n l (.ref x :: .ref x :: st) w) : zN y cc nL R Q a b pc l (.ref x :: st) w := by
  subst hn
  intro la p e s m args below meth c D cy A hc H locs ls cells slots hP hD hS hl9 ha hb
  obtain ⟨hx, hcb, -⟩ := id hc
  exact lv_dup hx hcb hd rfl (k la p e s m args below meth c D cy A hc H locs ls cells slots hP hD hS hl9 ha hb)
theorem zn_return (hd : decode cc pc = .ok (.return_, 1)) (hQ : Q w) : zN y cc nL R Q a b pc l [] w := by
  intro la p e s m args below meth c D cy A hc H locs ls cells slots hP hD hS hl9 ha hb
  obtain ⟨hx, hcb, hr, hml, hown, hts, hlk, hin, hA, hK, hNl, hAO⟩ := id hc
  refine W.widen (k := R.cells) (n := R.slots) (by omega) (by omega) ?_
  exact W.vret hx hcb hr (fun t ht hW => ⟨⟨w, rfl, hQ, by rw [ht]; exact hP, hD⟩, hS.F ht⟩) hS.2.2 hd hlk
/-- a new object -/
theorem zn_new {idx ci N : Nat} {C : String} {T : u_T} {ty : Nat → FieldType} {fs : List Value} (hn : pc + 3 = n) (hd : decode cc pc = .ok (.new idx, 3)) (hin : ∀ w ∈ u_ws C T N, w ∈ zTB) (hty : ∀ k, k < N → parseFieldDescriptor (T k).2.2.1 = some (ty k)) (h1 : Cond.classLink y.cls idx C ∈ zTB) (h2 : Cond.instantiable C N ∈ zTB) (h3 : Cond.initialized C ∈ zTB) (hc9 : vwCl[ci]? = some (C, T, N)) (hfs : ∀ j, j < N → defaultValue (ty j) = vp_V fs j) {a' b' : Nat} (ha9 : 1 + a' ≤ a) (hb9 : N + b' ≤ b)
    (k : ∀ q, zN y cc nL R Q a' b' n l (.ref q :: st) (fun cy => w cy ++ [(q, .inr (ci, fs))])) : zN y cc nL R Q a b pc l st w := by
  subst hn
  intro la p e s m args below meth c D cy A hc H locs ls cells slots hP hD hS hl9 ha hb
  obtain ⟨hx, hcb, hr, hml, hown, hts, hlk, hin9, hA, hK, hNl, hAO⟩ := id hc
  exact va_new hx hcb hts hin ty hty hown (hts _ h1) (hts _ h2) (hts _ h3) hK hP hD hS hA hc9 hfs (by omega) (by omega) hd (fun q H1 hP1 hD1 hS1 => k q la p e s m args below meth c D cy A hc H1 locs ls (cells + 1) (slots + N) hP1 hD1 hS1 hl9 (by omega) (by omega))
/-- a field written -/
theorem zn_putF {idx q0 a0 ci j N : Nat} {C ref : String} {T : u_T} {ty0 : Nat → FieldType} {fs : List Value} {ty : FieldType} {v : Value} {w' : zw} (hn : pc + 3 = n) (hd : decode cc pc = .ok (.putfield idx, 3)) (hin : ∀ w ∈ u_ws C T N, w ∈ zTB) (hty : ∀ k, k < N → parseFieldDescriptor (T k).2.2.1 = some (ty0 k)) (hnm : ∀ a, a < N → ∀ b, b < N → a ≠ b → (T a).2.1 ≠ (T b).2.1) (he : ∀ cy, (w cy)[q0]? = some (a0, .inr (ci, fs))) (hc9 : vwCl[ci]? = some (C, T, N)) (hj : j < N) (h1 : Cond.fieldLink y.cls idx ref (T j).2.1 (T j).2.2.1 ∈ zTB) (href : (T j).1 = ref) (hfin : (T j).2.2.2 = true) (hdecl : (T j).1 = y.cls) (hp : parseFieldDescriptor (T j).2.2.1 = some ty) (hnr : narrow ty v = v) (hft : fits ty v = true) (hl9 : j < fs.length) (hw : ∀ cy, (w cy).set q0 (a0, .inr (ci, fs.set j v)) = w' cy)
    (k : zN y cc nL R Q a b n l st w') : zN y cc nL R Q a b pc l (v :: .ref a0 :: st) w := by
  subst hn
  subst href
  intro la p e s m args below meth c D cy A hc H locs ls cells slots hP hD hS hl ha hb
  obtain ⟨hx, hcb, hr, hml, hown, hts, hlk, hin9, hA, hK, hNl, hAO⟩ := id hc
  refine va_putF hx hcb hts hin ty0 hty hnm hown hK hP hD hS q0 (he cy) hc9 j hj (hts _ h1) (fun _ h => h) hfin hin9 hdecl hp hnr hft hl9 hd (fun H1 locs1 hP1 hD1 hS1 => ?_)
  rw [hw cy] at hP1 hD1
  exact k la p e s m args below meth c D cy A hc H1 locs1 ls cells slots hP1 hD1 hS1 hl ha hb
end ZN
section ZN2
variable {y : MethodName} {cc : ByteArray} {nL : Nat} {R : Room} {Q : zw → Prop} {a b pc n : Nat} {l t : List (Option Value)} {st : List Value} {w : zw}
theorem zSum_ge {st : List Value} : (st.map fun v => v.category).sum = zSum st := rfl
theorem zn_objInit {idx x : Nat} (hn : pc + 3 = n) (hd : decode cc pc = .ok (.invokespecial idx, 3)) (h1 : Cond.methodLink y.cls idx Lib.objectInit ∈ zTB) (h2 : Cond.instanceMethod Lib.objectInit ∈ zTB) (h3 : Cond.code Lib.objectInit ⟨#[0xb1]⟩ 1 none ∈ zTB) (hR : 1 ≤ R.frames ∧ 20 ≤ R.locals) (hst : zSum st ≤ 8) (k : zN y cc nL R Q a b n l st w) : zN y cc nL R Q a b pc l (.ref x :: st) w := by
  subst hn
  intro la p e s m args below meth c D cy A hc H locs ls cells slots hP hD hS hl ha hb
  obtain ⟨hx, hcb, hr, hml, hown, hts, hlk, hin, hA, hK, hNl, hAO⟩ := id hc
  refine W.objInit hx hcb hown (hts _ h1) (hts _ h2) (hts _ h3) rfl (by rw [hml]; exact hl.1) rfl hd hR.1 ?_ ?_
  · show 2 * 0 + zSum st + 12 ≤ R.locals
    omega
  · refine W.eq (g2 := F0 m (pc + 3) ls st) rfl ?_
    exact k la p e s m args below meth c D cy A hc H locs ls cells slots hP hD hS hl ha hb
theorem zn_imax {idx : Nat} {x z v : Int32} (hn : pc + 3 = n) (hd : decode cc pc = .ok (.invokestatic idx, 3)) (S : zSx y.cls idx Lib.Math.max.name Lib.Math.max.code 2 (some .int)) (hR : 1 ≤ R.frames ∧ 21 ≤ R.locals) (hst : zSum st ≤ 8) (hv : (if x < z then z else x) = v) (k : zN y cc nL R Q a b n l (.int v :: st) w) : zN y cc nL R Q a b pc l (.int z :: .int x :: st) w := by
  subst hn; subst hv
  intro la p e s m args below meth c D cy A hc H locs ls cells slots hP hD hS hl ha hb
  obtain ⟨hx, hcb, hr, hml, hown, hts, hlk, hin, hA, hK, hNl, hAO⟩ := id hc
  refine va_mmax hx hcb (hml.trans hl.1.symm) hown (hts _ S.1) (hts _ S.2.1) (hts _ S.2.2.1) (hts _ S.2.2.2) hR.1 (by rw [zSum_ge]; omega) (by omega) (by omega) hd ?_
  exact k la p e s m args below meth c D cy A hc H locs ls cells slots hP hD hS hl ha hb
/-- a new row -/
theorem zn_newa {atype : ArrayType} {ty : FieldType} {t9 N' : Nat} {a0 : vp_A} {v : Int32} (hn : pc + 2 = n) (hd : decode cc pc = .ok (.newarray atype, 2)) (h1 : Cond.arrayClass (newarray.typeOf atype) ∈ zTB) (hty : newarray.typeOf atype = ty) (ht : ∀ cy, (zTys cy)[t9]? = some (cy t9, ty)) (hra : ∀ U cA, va_RA U cA ty → U.vm.findClass ("[" ++ ty.toString) = some cA) (ha0 : ∀ cA : ClassId, vp_cell cA a0 = arrV cA N' (fun _ => defaultValue ty)) (hv : ¬ v < 0) (hN : v.toNatClampNeg = N') (hbytes : N' * componentBytes ty ≤ 536870912) {a' b' : Nat} (ha9 : 1 + a' ≤ a) (hb9 : N' + b' ≤ b)
    (k : ∀ q, zN y cc nL R Q a' b' n l (.ref q :: st) (fun cy => w cy ++ [(q, .inl (cy t9, a0))])) : zN y cc nL R Q a b pc l (.int v :: st) w := by
  subst hn
  intro la p e s m args below meth c D cy A hc H locs ls cells slots hP hD hS hl ha hb
  obtain ⟨hx, hcb, hr, hml, hown, hts, hlk, hin, hA, hK, hNl, hAO⟩ := id hc
  refine va_newa hx hcb (hts _ h1) hty hK hP hD hS hA ha0 hv hN hbytes (by omega) (by omega) hd (fun q cA H1 hK1 hP1 hD1 hS1 => ?_)
  have e1 := hra _ _ (hK.2 t9 _ (ht cy)).2
  have e2 := hra _ _ (hK1.2 5 (cA, ty) rfl).2
  have e3 : cy t9 = cA := Option.some.inj (e1.symm.trans e2)
  subst e3
  exact k q la p e s m args below meth c D cy A hc H1 locs ls (cells + 1) (slots + N') hP1 hD1 hS1 hl (by omega) (by omega)
/-- a constructor called -/
theorem zN_met {vs : List Value} (hy : plainName y.cls = true) (hw : zSum vs ≤ nL) (hin : y.name = "<init>") (hJ : zN y cc nL R Q R.cells R.slots 0 (zEnt nL vs) [] w) (la : Launch) (D : va_G) (cy : Nat → ClassId) (A : Nat → Prop) :
    Met la y (zWs y cc nL none) R (va_Pc vs (fun U => va_P D vwCl (w cy) U.heap ∧ va_D A (w cy) ∧ va_K D vwCl (zTys cy) U ∧ (∀ q, U.heap.size ≤ q → A q) ∧ (∀ w ∈ zNl, va_Nw w U) ∧ va_AO "RepairAuction$Ring" U)) (zQN D cy A Q) R.cells R.slots A := by
  refine Met.ofW (cc := cc) (maxL := nL) (ret := none) hy rfl ?_
  intro p e s m args below meth c s₁ B hml hv
  obtain ⟨rfl, hP, hD, hK, hA, hNl, hAO⟩ := hv
  have hts := atoms_spec (ws := zWs y cc nL none) B.pre
  have hl := lv_entry vs (n := nL) (by have := zSl_len (ad := id) vs; rw [show vs.map (zC id) = vs from by simp [show zC id = id from funext zC_id]] at this; rw [this]; exact hw)
  rw [lg_entry_eq]
  generalize (lg_sl vs ++ List.replicate (nL - (lg_sl vs).length) Slot.unset).toArray = ls at hl ⊢
  refine hJ la p e s m _ below meth c D cy A ⟨B.exec, B.bytes, B.returns, hml, findClass_of_methodNamed B.named, fun w h => hts w (List.mem_cons_of_mem _ h), B.notSynchronized, by rw [← hin]; exact (name_of_methodNamed B.named B.method).1, hA, hK, hNl, hAO⟩ s.heap [] ls 0 0 hP hD va_S.rf ⟨hl.1, hl.2.1, fun i v h => ?_⟩ (by omega) (by omega)
  have := zEnt_in (ad := id) vs nL 0 i v h
  rw [show vs.map (zC id) = vs from by simp [show zC id = id from funext zC_id]] at this
  have := hl.2.2 _ this
  simpa using this
end ZN2
