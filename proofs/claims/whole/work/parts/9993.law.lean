/-! THE CLAIM OUT OF ONE WALK OF THE LAW'S BODY. Your part is whole_start (and what it stands on); all else here is the same for every law, but numbers. -/
def R_law : String := "RepairAuctionLaw"
def lw_P (b : Addr) (xs : List Int32) (args : Array Value) (s : State) : Prop := args = #[.ref b] ∧ s.IntsAt b xs ∧ xs.length ≤ 3072 ∧ (Jvm.Cond.and given_1 narrow_1).before args s = true
/-- what a walk over the start with the record d0 says of its end, said of the start itself -/
theorem lw_closed {s t : State} {o : Outcome} {d0 : Drawn} {L : List Loc} {k n : Nat} (hd0 : s.drawn.sameBut d0 lw_cs) (hv : ∃ v, o = .returned v) (hW : (s.setDrawn d0).WarmedH t.vm) (hs : (s.setDrawn d0).sameButNew ({ t with vm := s.vm } : State) L k n) : State.butDraws s t lw_cs (fun t1 => Framed s o t1 L k n) := by
  have h2 : t.drawn = d0 := congrArg State.drawn hs.1
  refine ⟨⟨hv, hW, State.sameButNew.setDrawn hs s.drawn⟩, ?_, by decide⟩
  rw [h2]
  exact hd0
def lw_Q (_ : Array Value) (s : State) (o : Outcome) (t : State) : Prop := o = .returned (some (.int 1)) ∧ State.butDraws s t lw_cs (fun t1 => Framed s o t1 [] 601024 7293034)
def lw_Z (below : List Frame) (a : Array Value) (s : State) : State → Prop := fun t => ∃ o, t.status = .running ∧ Ended t below o ∧ lw_Q a s o t
/-- what holds at the law's entry: the machine, the code, the tables' words (any of lw_tbl by 'hts w (by decide +kernel)'), the script of L ints xs at the cell b, what the Statement gives of the start (any of its parts by flat_of_before) -/
def lw_At (p : Program) (s : State) (m : MethodId) (meth : Method) (c : Code) (b L : Nat) (xs : Nat → Int32) : Prop :=
  p.tables.exec = Jvm.exec ∧ c.code = code ∧ meth.sig.returnType = ret ∧ c.maxLocals = 10 ∧ s.vm.findClass R_law = some m.cls ∧ (∀ w ∈ lw_tbl, w.before #[Value.ref b] s = true) ∧ va_X b L xs s s.heap ∧ b < s.heap.size ∧ meth.locks = false ∧ (Jvm.Cond.and given_1 narrow_1).before #[Value.ref b] s = true ∧ ∀ x ∈ c.exceptionTable.toList, False
section
variable {la : Launch} {p : Program} {e : Env} {R : Room} {s : State} {m : MethodId} {args : Array Value} {below : List Frame} {meth : Method} {c : Code} {H : Heap} {locs : List Loc} {cells slots : Nat} {Qz : State → Prop} {D : va_G} {cy : Nat → ClassId} {A : Nat → Prop} {cc : ByteArray} {nL pc : Nat} {ls : Array Slot} {st : List Value}
/-- a constructor called from a method that is none -/
theorem zl_call {own : String} {y' : MethodName} {cc' : ByteArray} {nL' idx q : Nat} {e9 : va_E} {R' : Room} {vs : List Value} {wr : va_W} {Q9 : zw → Prop} (hx : p.tables.exec = Jvm.exec) (hcb : c.code = cc) (hml : c.maxLocals = nL) (hown : s.vm.findClass own = some m.cls) (hts : ∀ w ∈ zTB, w.before args s = true) (hA : ∀ q, s.heap.size ≤ q → A q) (hK : va_K D vwCl (zTys cy) s) (hNl : ∀ w ∈ zNl, va_Nw w s) (hAO : va_AO "RepairAuction$Ring" s)
    (hd : decode cc pc = .ok (.invokespecial idx, 3)) (S : zSi own idx y' cc' nL' vs.length) (hR : R'.frames + 1 ≤ R.frames ∧ 8 + (nL' + 11) + R'.locals ≤ R.locals) (hst : zSum st ≤ 8) (ha9 : cells + R'.cells ≤ R.cells) (hb9 : slots + R'.slots ≤ R.slots) (hw9 : zSum vs + 1 ≤ nL')
    (hP : va_P D vwCl (wr ++ [(q, e9)]) H) (hD : va_D A (wr ++ [(q, e9)])) (hS : va_S A s.heap H locs) (hl : ls.size = nL)
    (hJ : zN y' cc' nL' R' Q9 R'.cells R'.slots 0 (zEnt nL' (.ref q :: vs)) [] (fun _ => [(q, e9)]))
    (k : ∀ (w' : zw) (H1 : Heap) (locs1 : List Loc), Q9 w' → va_P D vwCl (wr ++ w' cy) H1 → va_D A (wr ++ w' cy) → va_S A s.heap H1 locs1 → W p la e R s m args below meth c H1 locs1 (cells + R'.cells) (slots + R'.slots) Qz (F0 m (pc + 3) ls st)) :
    W p la e R s m args below meth c H locs cells slots Qz (F0 m pc ls (vs.reverse ++ .ref q :: st)) := by
  obtain ⟨S1, S2, S4, S5, S6, S7, S8⟩ := S
  have hlast : (wr ++ [(q, e9)])[wr.length]? = some (q, e9) := by simp
  have hP0 : va_P D vwCl [(q, e9)] H := fun k x hx9 => by
    have hz : k < 1 := (List.getElem?_eq_some_iff.mp hx9).1
    rw [show k = 0 by omega] at hx9
    cases hx9
    exact hP _ _ hlast
  have hPr : va_P D vwCl wr H := fun k x hx9 => hP k x (by rw [List.getElem?_append_left (List.getElem?_eq_some_iff.mp hx9).1]; exact hx9)
  have hDr : va_D A wr := ⟨fun i j p q h1 h2 h3 => hD.1 i j p q (by rw [List.getElem?_append_left (List.getElem?_eq_some_iff.mp h1).1]; exact h1) (by rw [List.getElem?_append_left (List.getElem?_eq_some_iff.mp h2).1]; exact h2) h3, fun k q h1 => hD.2 k q (by rw [List.getElem?_append_left (List.getElem?_eq_some_iff.mp h1).1]; exact h1)⟩
  have hne : ∀ (k : Nat) (x : Nat × va_E), wr[k]? = some x → x.1 ≠ q := fun k x h1 h2 => by
    have hk := (List.getElem?_eq_some_iff.mp h1).1
    have := hD.1 k wr.length x (q, e9) (by rw [List.getElem?_append_left hk]; exact h1) hlast h2
    omega
  have hD0 : va_D (va_A [(q, e9)] H.size) [(q, e9)] := by
    refine va_D.self (A := fun _ => True) ⟨fun i j p q h1 h2 _ => ?_, fun _ _ _ => trivial⟩
    have hi : i < 1 := (List.getElem?_eq_some_iff.mp h1).1
    have hj : j < 1 := (List.getElem?_eq_some_iff.mp h2).1
    omega
  have hq : ∀ x, va_A [(q, e9)] H.size x → x = q ∨ H.size ≤ x := fun x h => by
    rcases h with ⟨k, e, h⟩ | h
    · have hz : k < 1 := (List.getElem?_eq_some_iff.mp h).1
      rw [show k = 0 by omega] at h
      cases h
      exact Or.inl rfl
    · exact Or.inr h
  have hF : ∀ x, va_A [(q, e9)] H.size x → A x := fun x h => by
    rcases hq x h with rfl | h
    · exact hD.2 _ _ hlast
    · exact hA x (Nat.le_trans hS.1 h)
  have hM := zN_met S7 (by show 1 + zSum vs ≤ nL'; omega) S8 hJ la D cy (va_A [(q, e9)] H.size)
  have ok : ∀ w ∈ zTB, w.before args s = true := hts
  have hpre : PreS s H (va_Pc (.ref q :: vs) (fun U => va_P D vwCl ((fun _ => [(q, e9)] : zw) cy) U.heap ∧ va_D (va_A [(q, e9)] H.size) ((fun _ => [(q, e9)] : zw) cy) ∧ va_K D vwCl (zTys cy) U ∧ (∀ q9, U.heap.size ≤ q9 → va_A [(q, e9)] H.size q9) ∧ (∀ w ∈ zNl, va_Nw w U) ∧ va_AO "RepairAuction$Ring" U)) (.ref q :: vs) :=
    ⟨zn_blind (w := fun _ => [(q, e9)]) (cy := cy), fun U hU hW => ⟨rfl, by rw [hU]; exact hP0, hD0, va_K.moved hW.alike hK, by rw [hU]; exact fun q9 h => Or.inr h, fun w hw => zNk_warm hW (List.mem_filter.mp hw).2 (hNl w hw), va_AO.moved hW.alike hAO⟩⟩
  have hrun : va_Run p la e R s m args below meth c H locs cells slots R'.cells R'.slots (F0 m pc ls (vs.reverse ++ .ref q :: st)) st (zQN D cy (va_A [(q, e9)] H.size) Q9 (Value.ref q :: vs).toArray) (va_A [(q, e9)] H.size) := by
    rcases S1 with S1 | ⟨host, S1⟩
    · exact va_runI ⟨hx, hcb, hml, hown, ok⟩ hM ⟨callB_of vs.length ok (zWs_good S5) rfl rfl rfl (ok _ S4) (ok _ S1) S6 hR, S8, ok _ S2⟩ hpre rfl rfl hl rfl (lv_room hst) hd ⟨ha9, hb9⟩
    · exact va_runIN ⟨hx, hcb, hml, hown, ok⟩ hM ⟨va_cnB vs.length ok (zWs_good S5) rfl rfl rfl (hNl _ S1) (ok _ S4) S6 hR, S8, ok _ S2⟩ hpre rfl rfl hl rfl (lv_room hst) hd ⟨ha9, hb9⟩
  refine va_callv hrun hS (fun x _ h => hF x h) hF (fun w' t9 H1 locs1 ht hvm hpost hB hz hk hS1 => ?_)
  obtain ⟨hB1, hB2⟩ := hB
  rw [ht] at hB1
  refine k w' H1 locs1 hpost (va_P.app (fun k x h1 => (hPr k x h1).kept (hk x.1 (hPr k x h1).lt (fun h2 => ?_))) hB1) (va_D.app hDr (hB2.weaken (fun k x _ h2 => hF x.1 h2)) (fun i j x z h1 h2 h3 => ?_)) hS1
  · rcases hq _ h2 with h3 | h3
    · exact hne k x h1 h3
    · have := (hPr k x h1).lt
      omega
  · rcases hq _ (hB2.2 j z h2) with h4 | h4
    · exact hne i x h1 (h3.trans h4)
    · have := (hPr i x h1).lt
      omega
theorem zl_newa {atype : ArrayType} {ty : FieldType} {t9 N' : Nat} {a0 : vp_A} {v : Int32} {wr : va_W} (hx : p.tables.exec = Jvm.exec) (hcb : c.code = cc) (hts : ∀ w ∈ zTB, w.before args s = true) (hA : ∀ q, s.heap.size ≤ q → A q) (hK : va_K D vwCl (zTys cy) s)
    (hd : decode cc pc = .ok (.newarray atype, 2)) (h1 : Cond.arrayClass (newarray.typeOf atype) ∈ zTB) (hty : newarray.typeOf atype = ty) (ht : (zTys cy)[t9]? = some (cy t9, ty)) (hra : ∀ U cA, va_RA U cA ty → U.vm.findClass ("[" ++ ty.toString) = some cA) (ha0 : ∀ cA : ClassId, vp_cell cA a0 = arrV cA N' (fun _ => defaultValue ty)) (hv : ¬ v < 0) (hN : v.toNatClampNeg = N') (hbytes : N' * componentBytes ty ≤ 536870912) (ha9 : cells + 1 ≤ R.cells) (hb9 : slots + N' ≤ R.slots)
    (hP : va_P D vwCl wr H) (hD : va_D A wr) (hS : va_S A s.heap H locs)
    (k : ∀ q H1, va_P D vwCl (wr ++ [(q, .inl (cy t9, a0))]) H1 → va_D A (wr ++ [(q, .inl (cy t9, a0))]) → va_S A s.heap H1 locs → W p la e R s m args below meth c H1 locs (cells + 1) (slots + N') Qz (F0 m (pc + 2) ls (.ref q :: st))) : W p la e R s m args below meth c H locs cells slots Qz (F0 m pc ls (.int v :: st)) := by
  refine va_newa hx hcb (hts _ h1) hty hK hP hD hS hA ha0 hv hN hbytes ha9 hb9 hd (fun q cA H1 hK1 hP1 hD1 hS1 => ?_)
  have e1 := hra _ _ (hK.2 t9 _ ht).2
  have e2 := hra _ _ (hK1.2 5 (cA, ty) rfl).2
  have e3 : cy t9 = cA := Option.some.inj (e1.symm.trans e2)
  subst e3
  exact k q H1 hP1 hD1 hS1
theorem zmono {Q Q' : State → Prop} {g : JFrame} (hQ : ∀ t, Q t → Q' t) (k : W p la e R s m args below meth c H locs cells slots Q g) : W p la e R s m args below meth c H locs cells slots Q' g := fun T hT X => by
  obtain ⟨t, a1, b1⟩ := k T hT X
  exact ⟨t, a1, hQ t b1⟩
end
/-- the end of the law -/
theorem zend {s t : State} {below : List Frame} {b : Nat} {D : va_G} {ad : Nat → Nat} {cy : Nat → ClassId} {A : Nat → Prop} (hAs : ∀ q, A q → s.heap.size ≤ q) (h : vx_MQ below (zQc D ad cy A (fun r _ => r = some (.int (nI 1)))) (zXc D ad cy A (fun _ _ => False)) #[Value.ref b] s 601024 7293034 A t) : lw_Z below #[Value.ref b] s t := by
  obtain ⟨o, h1, h2, h3⟩ := h
  rcases h3 with ⟨⟨⟨r, M, ho, hr, -⟩, -⟩, L, hF, hL⟩ | ⟨q, -, E, ce, L, ⟨⟨M, hX, -⟩, -⟩, -⟩
  · obtain ⟨hv, hW, hs⟩ := hF
    refine ⟨o, h1, h2, by rw [ho, hr]; rfl, lw_closed (Drawn.sameBut.refl s.drawn lw_cs) hv hW ?_⟩
    obtain ⟨s1, s2, s3, s4, s5, s6⟩ := hs
    refine ⟨s1, s2, s3, s4, s5, fun a c hc => ?_⟩
    obtain ⟨c', k1, k2, k3, k4⟩ := s6 a c hc
    refine ⟨c', k1, k2, k3, fun i _ => k4 i (fun hm => ?_)⟩
    have h5 := hAs _ (hL _ hm)
    have h6 : a < s.heap.size := (Array.getElem?_eq_some_iff.mp hc).1
    exact absurd h6 (Nat.not_lt.mpr h5)
  · exact hX.elim
set_option maxHeartbeats 4000000 in
set_option maxRecDepth 100000 in
/-- THE LAW, from its entry -/
theorem whole_start {p : Program} {e : Env} {s : State} {m : MethodId} {below : List Frame} {meth : Method} {c : Code} (l : Launch) (hflags : l.flags = flags0) {b L : Nat} {xs : Nat → Int32} (hL : L ≤ 3072) (C0 : lw_At p s m meth c b L xs) : W p l e room_1 s m #[Value.ref b] below meth c s.heap [] 0 0 (lw_Z below #[Value.ref b] s) (entryFrame m ([Value.ref b] : List Value).toArray 10) := by
  obtain ⟨hx, hb, hr, hml, hown, hts, hX, hbl, hlocks, hgv, het⟩ := id C0
  have hA : ∀ q : Nat, s.heap.size ≤ q → (fun q : Nat => s.heap.size ≤ q) q := fun _ h => h
  have hnA : ∀ a : Nat, a < s.heap.size → ¬ (fun q : Nat => s.heap.size ≤ q) a := fun a h => Nat.not_le.mpr h
  have htb : ∀ w ∈ zTB, w.before #[Value.ref b] s = true := fun w hw => hts w (List.mem_filter.mp hw).1
  have hNl : ∀ w ∈ zNl, va_Nw w s := fun w hw => va_Nw.of (zNk_on (List.mem_filter.mp hw).2) (hts w (List.mem_filter.mp hw).1)
  have hAO : va_AO "RepairAuction$Ring" s := va_AO.of (hts _ (List.mem_of_getElem? zg_ao))
  obtain ⟨D, cy, hK⟩ := zK_of hts
  obtain ⟨kc, hks⟩ := zks_of (A := fun q : Nat => s.heap.size ≤ q) hts hgv hnA
  have hnc := zncs_of hgv
  have hS : va_S (fun q : Nat => s.heap.size ≤ q) s.heap s.heap [] := va_S.rf
  have hP : va_P D vwCl [] s.heap := fun k q h => by simp at h
  have hD : va_D (fun q : Nat => s.heap.size ≤ q) [] := ⟨fun i j p q h => by simp at h, fun k q h => by simp at h⟩
  have hl := lv_entry ([.ref b]) (n := 10) (Nat.le_of_ble_eq_true rfl)
  rw [lg_entry_eq]
  generalize (lg_sl ([.ref b]) ++ List.replicate (10 - (lg_sl ([.ref b])).length) Slot.unset).toArray = ls at hl ⊢
  have hl : lv_has ls 10 [(0, .ref b)] := hl
  refine va_new (ci := 8) (fs := fsX9) (C := RX9) (T := TX9) (N := 7) hx hb htb zuw_X9 tyX9 tyX9_ok hown (htb _ zq_141) (htb _ zq_142) (htb _ zq_115) hK hP hD hS hA rfl fsX9_ok (Nat.le_of_ble_eq_true rfl) (Nat.le_of_ble_eq_true rfl) dL_law_0 (fun q0 H hP hD hS => ?_)
  refine lv_dup hx hb dL_law_3 rfl ?_
  refine zl_call (vs := []) (wr := []) (cy := cy) (own := RL) hx hb hml hown htb hA hK hNl hAO dL_law_4 zs_L_146 ⟨Nat.le_of_ble_eq_true rfl, Nat.le_of_ble_eq_true rfl⟩ (Nat.le_of_ble_eq_true rfl) (Nat.le_of_ble_eq_true rfl) (Nat.le_of_ble_eq_true rfl) (Nat.le_of_ble_eq_true rfl) hP hD hS hl.1 (nX9_init (h0 := q0) (Q := fun w => ∃ f : Nat → Nat, f 0 = q0 ∧ w = W9 f) (fun a1 a2 a3 a4 a5 a6 a7 a8 a9 a10 a11 a12 a13 a14 a15 a16 a17 a18 a19 a20 a21 a22 a23 a24 a25 a26 a27 a28 a29 a30 a31 a32 a33 a34 a35 a36 a37 a38 a39 a40 a41 a42 a43 a44 a45 a46 a47 a48 a49 a50 a51 a52 a53 a54 a55 a56 a57 a58 a59 a60 a61 a62 a63 a64 a65 a66 a67 a68 a69 a70 a71 a72 a73 a74 a75 a76 a77 a78 a79 a80 a81 a82 a83 a84 a85 a86 a87 a88 a89 a90 a91 a92 a93 a94 a95 a96 a97 a98 a99 a100 a101 a102 a103 a104 a105 a106 a107 a108 a109 a110 a111 a112 a113 a114 a115 a116 a117 => ⟨fun i => [q0, a1, a2, a3, a4, a5, a6, a7, a8, a9, a10, a11, a12, a13, a14, a15, a16, a17, a18, a19, a20, a21, a22, a23, a24, a25, a26, a27, a28, a29, a30, a31, a32, a33, a34, a35, a36, a37, a38, a39, a40, a41, a42, a43, a44, a45, a46, a47, a48, a49, a50, a51, a52, a53, a54, a55, a56, a57, a58, a59, a60, a61, a62, a63, a64, a65, a66, a67, a68, a69, a70, a71, a72, a73, a74, a75, a76, a77, a78, a79, a80, a81, a82, a83, a84, a85, a86, a87, a88, a89, a90, a91, a92, a93, a94, a95, a96, a97, a98, a99, a100, a101, a102, a103, a104, a105, a106, a107, a108, a109, a110, a111, a112, a113, a114, a115, a116, a117].getD i 0, rfl, rfl⟩)) (fun w' H1 locs1 hq hP hD hS => ?_)
  obtain ⟨f, rfl, rfl⟩ := hq
  have hP : va_P D vwCl (W9 f cy) H1 := hP
  have hD : va_D (fun q : Nat => s.heap.size ≤ q) (W9 f cy) := hD
  refine lv_astore_n (lv' := [(1, .ref (f 0)), (0, .ref b)]) hx hb dL_law_7 rfl hl (by decide) rfl (fun ls hl => ?_)
  refine va_new (ci := 9) (fs := fsX10) (C := RX10) (T := TX10) (N := 30) hx hb htb zuw_X10 tyX10 tyX10_ok hown (htb _ zq_1458) (htb _ zq_1459) (htb _ zq_125) hK hP hD hS hA rfl fsX10_ok (Nat.le_of_ble_eq_true rfl) (Nat.le_of_ble_eq_true rfl) dL_law_8 (fun q1 H hP hD hS => ?_)
  refine lv_dup hx hb dL_law_11 rfl ?_
  refine zl_call (vs := []) (wr := W9 f cy) (cy := cy) (own := RL) hx hb hml hown htb hA hK hNl hAO dL_law_12 zs_L_149 ⟨Nat.le_of_ble_eq_true rfl, Nat.le_of_ble_eq_true rfl⟩ (Nat.le_of_ble_eq_true rfl) (Nat.le_of_ble_eq_true rfl) (Nat.le_of_ble_eq_true rfl) (Nat.le_of_ble_eq_true rfl) hP hD hS hl.1 (nX10_init (h0 := q1) (Q := fun w => ∃ g : Nat → Nat, g 0 = q1 ∧ w = W10 g) (fun a1 a2 a3 a4 a5 a6 a7 a8 a9 a10 a11 a12 => ⟨fun i => [q1, a1, a2, a3, a4, a5, a6, a7, a8, a9, a10, a11, a12].getD i 0, rfl, rfl⟩)) (fun w' H1 locs1 hq hP hD hS => ?_)
  obtain ⟨g, rfl, rfl⟩ := hq
  refine lv_astore_n (lv' := [(2, .ref (g 0)), (1, .ref (f 0)), (0, .ref b)]) hx hb dL_law_15 rfl hl (by decide) rfl (fun ls hl => ?_)
  refine lv_iconst (v := 1) hx hb dL_law_16 (by decide) ?_
  refine zl_newa (cy := cy) (t9 := 2) (ty := .long) (a0 := (1, .inr (.inl (fun _ => 0)))) (N' := 1) hx hb htb hA hK dL_law_17 zka_long rfl rfl (fun _ _ h => h) (fun _ => rfl) (by decide) (by decide) (by decide) (Nat.le_of_ble_eq_true rfl) (Nat.le_of_ble_eq_true rfl) hP hD hS (fun q2 H2 hP hD hS => ?_)
  refine lv_astore_n (lv' := [(3, .ref q2), (2, .ref (g 0)), (1, .ref (f 0)), (0, .ref b)]) hx hb dL_law_19 rfl hl (by decide) rfl (fun ls hl => ?_)
  refine lv_iconst (v := 1) hx hb dL_law_20 (by decide) ?_
  refine zl_newa (cy := cy) (t9 := 3) (ty := .double) (a0 := (1, .inr (.inr (.inr (.inl (fun _ => 0)))))) (N' := 1) hx hb htb hA hK dL_law_21 zka_double rfl rfl (fun _ _ h => h) (fun _ => rfl) (by decide) (by decide) (by decide) (Nat.le_of_ble_eq_true rfl) (Nat.le_of_ble_eq_true rfl) hP hD hS (fun q3 H3 hP hD hS => ?_)
  have hP : va_P D vwCl (WL f g q2 q3 cy) H3 := hP
  have hD : va_D (fun q : Nat => s.heap.size ≤ q) (WL f g q2 q3 cy) := hD
  refine lv_astore (lv' := [(4, .ref q3), (3, .ref q2), (2, .ref (g 0)), (1, .ref (f 0)), (0, .ref b)]) hx hb dL_law_23 hl (by decide) rfl (fun ls hl => ?_)
  refine lv_iconst (v := 0) hx hb dL_law_25 (by decide) ?_
  refine lv_istore (lv' := [(5, .int 0), (4, .ref q3), (3, .ref q2), (2, .ref (g 0)), (1, .ref (f 0)), (0, .ref b)]) hx hb dL_law_26 hl (by decide) rfl (fun ls hl => ?_)
  have hk := z_loop (L := L) (xs := xs) (Q := fun r _ => r = some (.int (nI 1))) (X := fun _ _ => False) hL (fun _ => rfl) 512 0 zS0 zM0 (Nat.zero_le _) (by omega) zI_0
  have hcx : zCx (zGL L xs) l yL_law cL_law 10 (some .boolean) p s m #[Value.ref b] meth c D (zad f g q2 q3 kc b) cy (fun q : Nat => s.heap.size ≤ q) :=
    ⟨hflags, hx, hb, hr, hml, hown, htb, hlocks, ⟨het, hnc, hX, hbl, Nat.not_le.mpr hbl⟩, hA, zw_inj hD, zw_in hD, hK, hks _ (fun k h1 h2 => by unfold zad; rw [if_neg (by omega), if_neg (by omega)])⟩
  have hlr : zLR (zad f g q2 q3 kc b) ls 10 [some (.ref 800), some (.ref 99), some (.ref 118), some (.ref 131), some (.ref 132), some (.int (nI 0)), none, none, none, none] := by
    refine ⟨hl.1, hl.2.1, fun i v hi => ?_⟩
    match i, hi with
    | 0, hi => cases hi; exact hl.2.2 (0, .ref b) (by simp)
    | 1, hi => cases hi; exact hl.2.2 (1, .ref (f 0)) (by simp)
    | 2, hi => cases hi; exact hl.2.2 (2, .ref (g 0)) (by simp)
    | 3, hi => cases hi; exact hl.2.2 (3, .ref q2) (by simp)
    | 4, hi => cases hi; exact hl.2.2 (4, .ref q3) (by simp)
    | 5, hi => cases hi; exact hl.2.2 (5, .int 0) (by simp)
    | 6, hi => cases hi
    | 7, hi => cases hi
    | 8, hi => cases hi
    | 9, hi => cases hi
    | i + 10, hi => cases hi
  refine zmono (fun t ht => zend (D := D) (ad := zad f g q2 q3 kc b) (cy := cy) (A := fun q : Nat => s.heap.size ≤ q) (fun _ h => h) ht) ?_
  exact hk l p e s m #[Value.ref b] below meth c D (zad f g q2 q3 kc b) cy (fun q : Nat => s.heap.size ≤ q) hcx H3 _ ls _ _ (zw_P hP) hS hlr (by exact Nat.le_of_ble_eq_true rfl) (by exact Nat.le_of_ble_eq_true rfl)
set_option maxHeartbeats 4000000 in
theorem lw_walk (l : Launch) (hflags : l.flags = flags0) (b : Addr) (xs : List Int32) : MetFree l x (headSpec (Jvm.Cond.code x code maxLocals ret :: tables_1) room_1) (lw_P b xs) (fun _ _ _ _ _ => True) lw_Q := by
  refine MetFree.of_bodyS (code := code) (maxLocals := maxLocals) (ret := ret) (by decide) ?_ ?_
  · intro args s m h hn
    obtain ⟨meth, c, h1, h2, h3, h4, h5, h6, -, -⟩ := Cond.code_spec hn (atoms_spec (ws := Jvm.Cond.code x code maxLocals ret :: tables_1) h _ List.mem_cons_self)
    exact ⟨meth, c, h1, h2, h3, h4, h5, h6⟩
  · intro p e s m args below meth c s₁ B hml0 hP _
    obtain ⟨rfl, hx, hbd, hgv⟩ := hP
    obtain ⟨scr, harrAt, hlist, hof, hsmall⟩ := hx
    obtain ⟨hcb, hkn, -, -⟩ := State.arrayAt?_spec harrAt
    have hown : s.vm.findClass R_law = some m.cls := findClass_of_methodNamed B.named
    have hts0 : ∀ c ∈ (Jvm.Cond.code x code maxLocals ret :: tables_1), c.before #[Value.ref b] s = true := atoms_spec (ws := Jvm.Cond.code x code maxLocals ret :: tables_1) B.pre
    have hts : ∀ w ∈ lw_tbl, w.before #[Value.ref b] s = true := k2_hts_sels lw_privs (fun w hw => hts0 w (List.mem_cons_of_mem _ hw)) lw_privs_ok
    have hml : c.maxLocals = 10 := B.maxLocals_eq (hts0 _ List.mem_cons_self)
    have het : ∀ x ∈ c.exceptionTable.toList, False := by
      obtain ⟨meth9, c9, g1, g2, -, -, -, -, g7, -⟩ := Cond.code_spec B.named (hts0 _ List.mem_cons_self)
      cases Option.some.inj (g1.symm.trans B.method)
      cases Option.some.inj (g2.symm.trans (Stand.of_body B).code)
      intro x hx
      rw [Array.isEmpty_iff.mp g7] at hx
      cases hx
    have X₀ : Stand p l e room_1 s m #[Value.ref b] below meth c s₁ [] 0 0 := Stand.of_body B
    have hh0 : s₁.heap = s.heap := by rw [B.state]; rfl
    have hsz : scr.slots.size = xs.length := by rw [← Array.length_toList, hlist, List.length_map]
    have hval : ∀ j : Nat, j < xs.length → scr.slots[j]? = some (.int (xs.getD j 0)) := fun j hj => by
      rw [← Array.getElem?_toList, hlist]
      simp [hj]
    have hbl : b < s.heap.size := (Array.getElem?_eq_some_iff.mp hcb).1
    have hX : va_X b xs.length (fun j => xs.getD j 0) s s.heap := ⟨scr, hcb, hof, hkn, hsz, hval⟩
    have K : W p l e room_1 s m #[Value.ref b] below meth c s₁.heap [] 0 0 (lw_Z below #[Value.ref b] s) (entryFrame m ([Value.ref b] : List Value).toArray 10) := by
      rw [hh0]
      exact whole_start l hflags hbd ⟨B.exec, B.bytes, B.returns, hml, hown, hts, hX, hbl, B.notSynchronized, hgv, het⟩
    obtain ⟨t, a1, o, b1, b2, b3⟩ := K s₁ rfl X₀
    exact ⟨t, o, a1, b1, b2, b3⟩
theorem lw_pre_spec {args : Array Value} {s : State} (h : (Jvm.Cond.and given_1 narrow_1).before args s = true) (hr : rest_1_c.before args s = true) : ∃ (b : Addr) (xs : List Int32), lw_P b xs args s := by
  have hs := flat_of_before _ h
  have hq := flat_of_before _ hr
  have hc : (Cond.count 1).before args s = true := hs _ (by decide +kernel)
  have harr : (Cond.arrayOf (.arg 0) .int).before args s = true := hs _ (by decide +kernel)
  have hle : (Cond.le (.length (.arg 0)) (.int 3072)).before args s = true := hs _ (by decide +kernel)
  have hlen : (Cond.isInt (.length (.arg 0))).before args s = true := hq _ (by decide +kernel)
  have hall : (Cond.all (.arg 0) (.isInt (.elem (.arg 0) (.index 0)))).before args s = true := hq _ (by decide +kernel)
  obtain ⟨b, xs, hb, hx⟩ := State.ints_of_pre rfl harr hlen hall
  have hsm : xs.length < 2 ^ 31 := hx.choose_spec.2.2.2
  have hev : (Term.length (.arg 0)).eval args s none [] s = some (.int xs.length.toInt32) := hx.length_eval hb
  have hv := Cond.le_ints hev (show (Term.int 3072).eval args s none [] s = some (.int 3072) from rfl)
  have hd : xs.length.toInt32 ≤ 3072 := by
    simpa [Cond.before, Cond.holds, hv] using hle
  have hN : xs.length ≤ 3072 := (Int32.ofNat_le_ofNat hsm (by decide)).mp (show Int32.ofNat xs.length ≤ Int32.ofNat 3072 from hd)
  exact ⟨b, xs, Cond.one_arg hc (show args[0]? = some (.ref b) from hb), hx, hN, h⟩
theorem lw_comes (l : Launch) (hflags : l.flags = flags0) : Comes l x (Jvm.Cond.code x code maxLocals ret :: tables_1) room_1 (fun tb e args s => Calls_1 tb e args s ∧ rest_1 tb e args s ∧ Pre_1 tb e args s)
    (fun _ _ args s o t => lw_Q args s o t) := by
  intro p e ha hc hk s m args below hf hfit hheap happ hpre
  obtain ⟨b, xs, hP⟩ := lw_pre_spec hpre.2.2 hpre.2.1
  obtain ⟨k, o, h1, h2, h3, hQ⟩ := lw_walk l hflags b xs p e ha hc hk s m args below hf ((Spec.applies_iff_loose hf).mp happ).1 hP trivial
  exact ⟨k, o, h1, h2, h3, hQ⟩
theorem lw_frame {s t : State} {o : Outcome} {args : Array Value} (h : State.butDraws s t lw_cs (fun t1 => Framed s o t1 [] 601024 7293034)) :
    State.butDraws s t [Jvm.Choice.named "NaN.bits"] (fun t1 => Framed s o t1 (fieldLocs frame_1_writes args s ++ arrayLocs frame_1_arrays args s ++ staticLocs frame_1_statics s) 601024 7293034) := h
theorem lw_limb (L : Cond) (hL : ∀ (args : Array Value) (s t : State), L.after args s (.returned (some (.int 1))) t = true) :
    ArmFor flags0 classFile x code maxLocals ret World_1 tables_1 room_1 Calls_1 rest_1 Pre_1
      (fun tb e a s o t => postC L tb e a s o t ∧ State.butDraws s t [Jvm.Choice.named "NaN.bits"] (fun t1 => Framed s o t1 (fieldLocs frame_1_writes a s ++ arrayLocs frame_1_arrays a s ++ staticLocs frame_1_statics s) 601024 7293034)) := by
  intro l hflags _ _ p e ha hc hk s m args below hf hfit hheap happ hpre
  obtain ⟨k, o, h1, h2, h3, rfl, hF⟩ := lw_comes l hflags p e ha hc hk s m args below hf hfit hheap happ hpre
  exact ⟨k, _, h1, h2, h3, hL args s _, lw_frame hF⟩
theorem i_vc : Claimed_1_1 ∧ Claimed_1_2 := ⟨lw_limb limb_1_1 (fun args s t => by simp [limb_1_1, Cond.after, Cond.holds, Cond.value]), lw_limb limb_1_2 (fun args s t => Cond.after_iff.mpr (by
  first | (rw [show limb_1_2 = Cond.eq .result (.int 1) from rfl, Cond.eq_ints (x := 1) (y := 1) rfl rfl]; simp; done) | (simp [limb_1_2, Cond.value, Term.eval]; done)))⟩
