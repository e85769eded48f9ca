/-! THE CLASS'S QUESTIONS -/
def zCl (M : zM) (v : zV) : Prop := zRg M 0 v ∧ zRf M 18 ∧ zAo M 105 ∧ zAo M 111
def zQn (M M' : zM) : Prop := (∀ a, ¬ (18 ≤ a ∧ a ≤ 26) → ¬ (105 ≤ a ∧ a ≤ 115) → M'.1 a = M.1 a) ∧ (∀ c, c ≠ 107 → c ≠ 110 → c ≠ 113 → M'.2.1 c = M.2.1 c) ∧ M'.2.2 = M.2.2 ∧ zRf M' 18 ∧ zAo M' 105 ∧ zAo M' 111
theorem zCl.rf {M : zM} {v : zV} (h : zCl M v) : zQn M M := ⟨fun _ _ _ => rfl, fun _ _ _ _ => rfl, rfl, h.2⟩
theorem zQn.cl {M M' : zM} {v : zV} (h : zQn M M') (hC : zCl M v) : zCl M' v := ⟨hC.1.cg (fun a _ h2 => h.1 a (by omega) (by omega)), h.2.2.2⟩
theorem zQn.tr {M M1 M2 : zM} (h : zQn M M1) (h2 : zQn M1 M2) : zQn M M2 := ⟨fun a h3 h4 => (h2.1 a h3 h4).trans (h.1 a h3 h4), fun c h3 h4 h5 => (h2.2.1 c h3 h4 h5).trans (h.2.1 c h3 h4 h5), h2.2.2.1.trans h.2.2.1, h2.2.2.2⟩
theorem zCl.ofL {M : zM} {v : zV} (h : zCl M v) {L : Nat → Nat → Int64} (hL : ∀ c, c ≠ 107 → L c = M.2.1 c) : zQn M (M.1, L, M.2.2) := ⟨fun _ _ _ => rfl, fun c h1 _ _ => hL c h1, rfl, h.2.1.cg (fun _ _ _ => rfl), h.2.2.1.cg rfl, h.2.2.2.cg rfl⟩
theorem zCl.ofA {M M' : zM} {v : zV} (h : zCl M v) (hA : zAf 105 M M') (hO : zAo M' 105) : zQn M M' := ⟨fun a _ h2 => hA.1 a (by omega) (by omega) (by omega), fun c h1 _ _ => hA.2.1 c h1, hA.2.2, h.2.1.cg (fun a h1 h2 => hA.1 a (by omega) (by omega) (by omega)), hO, h.2.2.2.cg (hA.1 _ (by decide) (by decide) (by decide))⟩
theorem zCl.ofF {M M' : zM} {v : zV} (h : zCl M v) (hF : zFc M M') (hO : zAo M' 111) (hf : zRf M' 18) : zQn M M' := ⟨fun a h1 h2 => hF.1 a (by omega) (by omega), fun c _ h2 h3 => hF.2.1 c h2 h3, hF.2.2, hf, h.2.2.1.cg (hF.1 _ (by decide) (by decide)), hO⟩
theorem zgtI {x : Int32} {k : Nat} (hk : k + 1 < 2 ^ 31) : nI k < x ↔ nI (k + 1) ≤ x := by
  rw [Int32.lt_iff_toInt_lt, Int32.le_iff_toInt_le, nI_toInt (by omega), nI_toInt hk]
  omega
theorem zin_t {x : Int32} {n : Nat} (h1 : ¬ x < 0) (h2 : ¬ nI n ≤ x) : zin x n = true := decide_eq_true ⟨h1, h2⟩
theorem zin_f1 {x : Int32} {n : Nat} (h1 : x < 0) : zin x n = false := decide_eq_false (fun q => q.1 h1)
theorem zin_f2 {x : Int32} {n : Nat} (h1 : nI n ≤ x) : zin x n = false := decide_eq_false (fun q => q.2 h1)
theorem zin_g {x : Int32} {k : Nat} (hk : k + 1 < 2 ^ 31) (h1 : ¬ x < 0) (h2 : ¬ nI k < x) : zin x (k + 1) = true := zin_t h1 (fun q => h2 ((zgtI hk).mpr q))
theorem zin_fg {x : Int32} {k : Nat} (hk : k + 1 < 2 ^ 31) (h1 : nI k < x) : zin x (k + 1) = false := zin_f2 ((zgtI hk).mp h1)
theorem jX9_needIndex {p : Bool} {Q : Option Value → zM → Prop} {X : String → zM → Prop} {M : zM} (h : p = true → Q none M) (h2 : p = false → X "java/lang/IndexOutOfBoundsException" M) : zJ yX9_needIndex cX9_needIndex 1 none rX9_needIndex Q X rX9_needIndex.cells rX9_needIndex.slots 0 (zEnt 1 [.int (zb p)]) [] M := by
  show zJ yX9_needIndex cX9_needIndex 1 none rX9_needIndex Q X 1 6 0 [some (.int (zb p))] [] M
  refine zj_iload0 (n := 1) rfl dX9_needIndex_0 ?_
  refine zj_ifB_ne (n := 4) (tgt := 15) rfl dX9_needIndex_1 (by decide) (fun c1 => ?_) (fun c1 => ?_)
  · exact zj_return dX9_needIndex_15 rfl (h c1)
  · exact zj_throwSW (i9 := 2) (text := "no such node, tenant, group, shard, round or byte") (by decide) (by decide) rfl zt_X9_needIndex_a zt_X9_needIndex_b ⟨by decide, rfl⟩ zt_X9_needIndex_c zt_X9_needIndex_d dX9_needIndex_4 dX9_needIndex_7 dX9_needIndex_8 dX9_needIndex_11 dX9_needIndex_14 (by decide) (by decide) (by decide) (by decide) (h2 c1)
theorem jX9_needArgument {p : Bool} {Q : Option Value → zM → Prop} {X : String → zM → Prop} {M : zM} (h : p = true → Q none M) (h2 : p = false → X "java/lang/IllegalArgumentException" M) : zJ yX9_needArgument cX9_needArgument 1 none rX9_needArgument Q X rX9_needArgument.cells rX9_needArgument.slots 0 (zEnt 1 [.int (zb p)]) [] M := by
  show zJ yX9_needArgument cX9_needArgument 1 none rX9_needArgument Q X 1 6 0 [some (.int (zb p))] [] M
  refine zj_iload0 (n := 1) rfl dX9_needArgument_0 ?_
  refine zj_ifB_ne (n := 4) (tgt := 15) rfl dX9_needArgument_1 (by decide) (fun c1 => ?_) (fun c1 => ?_)
  · exact zj_return dX9_needArgument_15 rfl (h c1)
  · exact zj_throwSW (i9 := 3) (text := "a value is out of range") (by decide) (by decide) rfl zt_X9_needArgument_a zt_X9_needArgument_b ⟨by decide, rfl⟩ zt_X9_needArgument_c zt_X9_needArgument_d dX9_needArgument_4 dX9_needArgument_7 dX9_needArgument_8 dX9_needArgument_11 dX9_needArgument_14 (by decide) (by decide) (by decide) (by decide) (h2 c1)
theorem jX9_needState {p : Bool} {Q : Option Value → zM → Prop} {X : String → zM → Prop} {M : zM} (h : p = true → Q none M) (h2 : p = false → X "java/lang/IllegalStateException" M) : zJ yX9_needState cX9_needState 1 none rX9_needState Q X rX9_needState.cells rX9_needState.slots 0 (zEnt 1 [.int (zb p)]) [] M := by
  show zJ yX9_needState cX9_needState 1 none rX9_needState Q X 1 6 0 [some (.int (zb p))] [] M
  refine zj_iload0 (n := 1) rfl dX9_needState_0 ?_
  refine zj_ifB_ne (n := 4) (tgt := 15) rfl dX9_needState_1 (by decide) (fun c1 => ?_) (fun c1 => ?_)
  · exact zj_return dX9_needState_15 rfl (h c1)
  · exact zj_throwSW (i9 := 4) (text := "the call does not fit the state") (by decide) (by decide) rfl zt_X9_needState_a zt_X9_needState_b ⟨by decide, rfl⟩ zt_X9_needState_c zt_X9_needState_d dX9_needState_4 dX9_needState_7 dX9_needState_8 dX9_needState_11 dX9_needState_14 (by decide) (by decide) (by decide) (by decide) (h2 c1)
theorem jX9_needNode {v : zV} {x : Int32} {Q : Option Value → zM → Prop} {X : String → zM → Prop} {M : zM} (hR : zRg M 0 v) (h : zin x (v 6) = true → Q none M) (h2 : zin x (v 6) = false → X "java/lang/IndexOutOfBoundsException" M) : zJ yX9_needNode cX9_needNode 2 none rX9_needNode Q X rX9_needNode.cells rX9_needNode.slots 0 (zEnt 2 [.ref 99, .int x]) [] M := by
  show zJ yX9_needNode cX9_needNode 2 none rX9_needNode Q X 1 6 0 [some (.ref 99), some (.int x)] [] M
  refine zj_aload0 (n := 1) rfl dX9_needNode_0 ?_
  refine zj_getr (n := 4) (q := 0) rfl dX9_needNode_1 zf_X9_33 rfl (by decide) (by decide) rfl ?_
  refine zj_getr (n := 7) (q := 1) rfl dX9_needNode_4 zf_X9_123 rfl (by decide) (by decide) rfl ?_
  refine zj_iload1 (n := 8) rfl dX9_needNode_7 ?_
  refine zj_callV1 (n := 11) (a' := 1) (b' := 6) rfl dX9_needNode_8 zm_X9_305 (by decide) (by decide) rfl (Nat.le_of_ble_eq_true rfl) (Nat.le_of_ble_eq_true rfl) (Nat.le_of_ble_eq_true rfl) (Nat.le_of_ble_eq_true rfl) (jT_holds hR.n.1 ?_)
  refine zj_callS1 (n := 14) (a' := 0) (b' := 0) rfl dX9_needNode_11 zm_X9_308 (by decide) (Nat.le_of_ble_eq_true rfl) (Nat.le_of_ble_eq_true rfl) (Nat.le_of_ble_eq_true rfl) (Nat.le_of_ble_eq_true rfl) (jX9_needIndex (fun c => ?_) h2)
  exact zj_return dX9_needNode_14 rfl (h c)
theorem jX9_needTenant {v : zV} {x : Int32} {Q : Option Value → zM → Prop} {X : String → zM → Prop} {M : zM} (hR : zRg M 0 v) (h : zin x (v 7) = true → Q none M) (h2 : zin x (v 7) = false → X "java/lang/IndexOutOfBoundsException" M) : zJ yX9_needTenant cX9_needTenant 2 none rX9_needTenant Q X rX9_needTenant.cells rX9_needTenant.slots 0 (zEnt 2 [.ref 99, .int x]) [] M := by
  show zJ yX9_needTenant cX9_needTenant 2 none rX9_needTenant Q X 1 6 0 [some (.ref 99), some (.int x)] [] M
  refine zj_aload0 (n := 1) rfl dX9_needTenant_0 ?_
  refine zj_getr (n := 4) (q := 0) rfl dX9_needTenant_1 zf_X9_33 rfl (by decide) (by decide) rfl ?_
  refine zj_getr (n := 7) (q := 3) rfl dX9_needTenant_4 zf_X9_142 rfl (by decide) (by decide) rfl ?_
  refine zj_iload1 (n := 8) rfl dX9_needTenant_7 ?_
  refine zj_callV1 (n := 11) (a' := 1) (b' := 6) rfl dX9_needTenant_8 zm_X9_305 (by decide) (by decide) rfl (Nat.le_of_ble_eq_true rfl) (Nat.le_of_ble_eq_true rfl) (Nat.le_of_ble_eq_true rfl) (Nat.le_of_ble_eq_true rfl) (jT_holds hR.t.1 ?_)
  refine zj_callS1 (n := 14) (a' := 0) (b' := 0) rfl dX9_needTenant_11 zm_X9_308 (by decide) (Nat.le_of_ble_eq_true rfl) (Nat.le_of_ble_eq_true rfl) (Nat.le_of_ble_eq_true rfl) (Nat.le_of_ble_eq_true rfl) (jX9_needIndex (fun c => ?_) h2)
  exact zj_return dX9_needTenant_14 rfl (h c)
theorem jX9_needGroup {v : zV} {x : Int32} {Q : Option Value → zM → Prop} {X : String → zM → Prop} {M : zM} (hR : zRg M 0 v) (h : zin x (v 8) = true → Q none M) (h2 : zin x (v 8) = false → X "java/lang/IndexOutOfBoundsException" M) : zJ yX9_needGroup cX9_needGroup 2 none rX9_needGroup Q X rX9_needGroup.cells rX9_needGroup.slots 0 (zEnt 2 [.ref 99, .int x]) [] M := by
  show zJ yX9_needGroup cX9_needGroup 2 none rX9_needGroup Q X 1 6 0 [some (.ref 99), some (.int x)] [] M
  refine zj_aload0 (n := 1) rfl dX9_needGroup_0 ?_
  refine zj_getr (n := 4) (q := 0) rfl dX9_needGroup_1 zf_X9_33 rfl (by decide) (by decide) rfl ?_
  refine zj_getr (n := 7) (q := 5) rfl dX9_needGroup_4 zf_X9_91 rfl (by decide) (by decide) rfl ?_
  refine zj_iload1 (n := 8) rfl dX9_needGroup_7 ?_
  refine zj_callV1 (n := 11) (a' := 1) (b' := 6) rfl dX9_needGroup_8 zm_X9_305 (by decide) (by decide) rfl (Nat.le_of_ble_eq_true rfl) (Nat.le_of_ble_eq_true rfl) (Nat.le_of_ble_eq_true rfl) (Nat.le_of_ble_eq_true rfl) (jT_holds hR.g.1 ?_)
  refine zj_callS1 (n := 14) (a' := 0) (b' := 0) rfl dX9_needGroup_11 zm_X9_308 (by decide) (Nat.le_of_ble_eq_true rfl) (Nat.le_of_ble_eq_true rfl) (Nat.le_of_ble_eq_true rfl) (Nat.le_of_ble_eq_true rfl) (jX9_needIndex (fun c => ?_) h2)
  exact zj_return dX9_needGroup_14 rfl (h c)
theorem zNo.ck {M : zM} {r n k : Nat} {v : zV} (h : zNo M r v (vcnt v (v 8))) (hn : n < v 6) (hk : k < 7) : M.1 (r + 2) (n * 8 + k) = nI (if k = 4 then vcnt v (v 8) n else if k < 4 then v (10 + 12 * n + k) else v (10 + 12 * n + (k - 1))) := by
  have : k = 0 ∨ k = 1 ∨ k = 2 ∨ k = 3 ∨ k = 4 ∨ k = 5 ∨ k = 6 := by omega
  rcases this with rfl | rfl | rfl | rfl | rfl | rfl | rfl
  · exact h.c0 hn
  · exact h.c1 hn
  · exact h.c2 hn
  · exact h.c3 hn
  · exact h.c4 hn
  · exact h.c5 hn
  · exact h.c6 hn
theorem zGr.ck {M : zM} {r gn g k : Nat} {v : zV} {mn : Nat → Nat} (h : zGr M r v gn mn) (hg : g < gn) (hk : k < 8) : M.1 (r + 6) (g * 21 + k) = nI (if k < 7 then v (268 + 23 * g + k) else vcost v g) := by
  rcases Nat.lt_or_ge k 7 with q | q
  · rw [if_pos q]; exact h.c hg q
  · have : k = 7 := by omega
    subst this
    exact h.co hg
theorem jX9_node {v : zV} {x : Int32} {z : Int32} {Q : Option Value → zM → Prop} {X : String → zM → Prop} {M : zM} (hC : zCl M v) (hW : zWF v) (hx1 : (a_node v x z).1 = 1 → X "java/lang/IndexOutOfBoundsException" M) (hx2 : (a_node v x z).1 = 2 → X "java/lang/IllegalArgumentException" M) (h : (a_node v x z).1 = 0 → ∀ M', zQn M M' → Q (some (.int (a_node v x z).2)) M') : zJ yX9_node cX9_node 3 (some .int) rX9_node Q X rX9_node.cells rX9_node.slots 0 (zEnt 3 [.ref 99, .int x, .int z]) [] M := by
  have hR := hC.1
  have h6 := hW.nN
  have h7 := hW.tN
  have h8 := hW.gN
  have h9 := hW.hN
  show zJ yX9_node cX9_node 3 (some .int) rX9_node Q X 2 12 0 [some (.ref 99), some (.int x), some (.int z)] [] M
  refine zj_aload0 (n := 1) rfl dX9_node_0 ?_
  refine zj_iload1 (n := 2) rfl dX9_node_1 ?_
  refine zj_callV1 (n := 5) (a' := 1) (b' := 6) rfl dX9_node_2 zm_X9_120 (by decide) (by decide) rfl (Nat.le_of_ble_eq_true rfl) (Nat.le_of_ble_eq_true rfl) (Nat.le_of_ble_eq_true rfl) (Nat.le_of_ble_eq_true rfl) (jX9_needNode hR (fun c2 => ?_) (fun c2 => hx1 (by simp [a_node, c2])))
  obtain ⟨n, hn, rfl⟩ := (zin_iff (by omega)).mp c2
  refine zj_iload2 (n := 6) rfl dX9_node_5 ?_
  refine zj_if_lt (n := 9) (tgt := 19) rfl dX9_node_6 (by decide) (fun c6 => ?_) (fun c6 => ?_)
  · refine zj_iconstN_0 (n := 20) rfl dX9_node_19 ?_
    refine zj_callS1 (n := 23) (a' := 0) (b' := 0) rfl dX9_node_20 zm_X9_72 (by decide) (Nat.le_of_ble_eq_true rfl) (Nat.le_of_ble_eq_true rfl) (Nat.le_of_ble_eq_true rfl) (Nat.le_of_ble_eq_true rfl) (jX9_needArgument (p := false) (fun q => by cases q) (fun _ => hx2 (by simp [a_node, c2, zin_f1 c6])))
  · refine zj_iload2 (n := 10) rfl dX9_node_9 ?_
    refine zj_bipushN (v := 6) (n := 12) rfl dX9_node_10 (by decide) ?_
    refine zj_icmp_gt (n := 15) (tgt := 19) rfl dX9_node_12 (by decide) (fun c12 => ?_) (fun c12 => ?_)
    · refine zj_iconstN_0 (n := 20) rfl dX9_node_19 ?_
      refine zj_callS1 (n := 23) (a' := 0) (b' := 0) rfl dX9_node_20 zm_X9_72 (by decide) (Nat.le_of_ble_eq_true rfl) (Nat.le_of_ble_eq_true rfl) (Nat.le_of_ble_eq_true rfl) (Nat.le_of_ble_eq_true rfl) (jX9_needArgument (p := false) (fun q => by cases q) (fun _ => hx2 (by simp [a_node, c2, zin_fg (k := 6) (by decide) c12])))
    · refine zj_iconstN_1 (n := 16) rfl dX9_node_15 ?_
      refine zj_goto (tgt := 20) dX9_node_16 (by decide) ?_
      refine zj_callS1 (n := 23) (a' := 0) (b' := 0) rfl dX9_node_20 zm_X9_72 (by decide) (Nat.le_of_ble_eq_true rfl) (Nat.le_of_ble_eq_true rfl) (Nat.le_of_ble_eq_true rfl) (Nat.le_of_ble_eq_true rfl) (jX9_needArgument (p := true) (fun _ => ?_) (fun q => by cases q))
      have d2 : zin z 7 = true := zin_g (k := 6) (by decide) c6 c12
      obtain ⟨k, hk, rfl⟩ := (zin_iff (by decide)).mp d2
      refine zj_aload0 (n := 24) rfl dX9_node_23 ?_
      refine zj_getr (n := 27) (q := 0) rfl dX9_node_24 zf_X9_33 rfl (by decide) (by decide) rfl ?_
      refine zj_getr (n := 30) (q := 1) rfl dX9_node_27 zf_X9_123 rfl (by decide) (by decide) rfl ?_
      refine zj_iload1 (n := 31) rfl dX9_node_30 ?_
      refine zj_iload2 (n := 32) rfl dX9_node_31 ?_
      refine zj_callV2 (n := 35) (a' := 0) (b' := 0) rfl dX9_node_32 zm_X9_126 (by decide) (by decide) rfl (Nat.le_of_ble_eq_true rfl) (Nat.le_of_ble_eq_true rfl) (Nat.le_of_ble_eq_true rfl) (Nat.le_of_ble_eq_true rfl) (jT_get hR.n.1 hn (by omega) (hR.n.ck hn hk) ?_)
      refine zj_ireturn dX9_node_35 rfl rfl ?_
      have h := h (by simp only [a_node, c2, d2, if_true, Bool.and_true, Bool.true_and]) _ (hC.rf)
      simp only [a_node, c2, d2, xn_at (show n < 2 ^ 31 by omega), xn_at (show k < 2 ^ 31 by omega), if_true, Bool.and_true, Bool.true_and] at h
      exact h
theorem jX9_tenant {v : zV} {x : Int32} {z : Int32} {Q : Option Value → zM → Prop} {X : String → zM → Prop} {M : zM} (hC : zCl M v) (hW : zWF v) (hx1 : (a_tenant v x z).1 = 1 → X "java/lang/IndexOutOfBoundsException" M) (hx2 : (a_tenant v x z).1 = 2 → X "java/lang/IllegalArgumentException" M) (h : (a_tenant v x z).1 = 0 → ∀ M', zQn M M' → Q (some (.int (a_tenant v x z).2)) M') : zJ yX9_tenant cX9_tenant 3 (some .int) rX9_tenant Q X rX9_tenant.cells rX9_tenant.slots 0 (zEnt 3 [.ref 99, .int x, .int z]) [] M := by
  have hR := hC.1
  have h6 := hW.nN
  have h7 := hW.tN
  have h8 := hW.gN
  have h9 := hW.hN
  show zJ yX9_tenant cX9_tenant 3 (some .int) rX9_tenant Q X 2 12 0 [some (.ref 99), some (.int x), some (.int z)] [] M
  refine zj_aload0 (n := 1) rfl dX9_tenant_0 ?_
  refine zj_iload1 (n := 2) rfl dX9_tenant_1 ?_
  refine zj_callV1 (n := 5) (a' := 1) (b' := 6) rfl dX9_tenant_2 zm_X9_139 (by decide) (by decide) rfl (Nat.le_of_ble_eq_true rfl) (Nat.le_of_ble_eq_true rfl) (Nat.le_of_ble_eq_true rfl) (Nat.le_of_ble_eq_true rfl) (jX9_needTenant hR (fun c2 => ?_) (fun c2 => hx1 (by simp [a_tenant, c2])))
  obtain ⟨n, hn, rfl⟩ := (zin_iff (by omega)).mp c2
  refine zj_iload2 (n := 6) rfl dX9_tenant_5 ?_
  refine zj_if_lt (n := 9) (tgt := 18) rfl dX9_tenant_6 (by decide) (fun c6 => ?_) (fun c6 => ?_)
  · refine zj_iconstN_0 (n := 19) rfl dX9_tenant_18 ?_
    refine zj_callS1 (n := 22) (a' := 0) (b' := 0) rfl dX9_tenant_19 zm_X9_72 (by decide) (Nat.le_of_ble_eq_true rfl) (Nat.le_of_ble_eq_true rfl) (Nat.le_of_ble_eq_true rfl) (Nat.le_of_ble_eq_true rfl) (jX9_needArgument (p := false) (fun q => by cases q) (fun _ => hx2 (by simp [a_tenant, c2, zin_f1 c6])))
  · refine zj_iload2 (n := 10) rfl dX9_tenant_9 ?_
    refine zj_iconstN_4 (n := 11) rfl dX9_tenant_10 ?_
    refine zj_icmp_gt (n := 14) (tgt := 18) rfl dX9_tenant_11 (by decide) (fun c11 => ?_) (fun c11 => ?_)
    · refine zj_iconstN_0 (n := 19) rfl dX9_tenant_18 ?_
      refine zj_callS1 (n := 22) (a' := 0) (b' := 0) rfl dX9_tenant_19 zm_X9_72 (by decide) (Nat.le_of_ble_eq_true rfl) (Nat.le_of_ble_eq_true rfl) (Nat.le_of_ble_eq_true rfl) (Nat.le_of_ble_eq_true rfl) (jX9_needArgument (p := false) (fun q => by cases q) (fun _ => hx2 (by simp [a_tenant, c2, zin_fg (k := 4) (by decide) c11])))
    · refine zj_iconstN_1 (n := 15) rfl dX9_tenant_14 ?_
      refine zj_goto (tgt := 19) dX9_tenant_15 (by decide) ?_
      refine zj_callS1 (n := 22) (a' := 0) (b' := 0) rfl dX9_tenant_19 zm_X9_72 (by decide) (Nat.le_of_ble_eq_true rfl) (Nat.le_of_ble_eq_true rfl) (Nat.le_of_ble_eq_true rfl) (Nat.le_of_ble_eq_true rfl) (jX9_needArgument (p := true) (fun _ => ?_) (fun q => by cases q))
      have d2 : zin z 5 = true := zin_g (k := 4) (by decide) c6 c11
      obtain ⟨k, hk, rfl⟩ := (zin_iff (by decide)).mp d2
      refine zj_aload0 (n := 23) rfl dX9_tenant_22 ?_
      refine zj_getr (n := 26) (q := 0) rfl dX9_tenant_23 zf_X9_33 rfl (by decide) (by decide) rfl ?_
      refine zj_getr (n := 29) (q := 3) rfl dX9_tenant_26 zf_X9_142 rfl (by decide) (by decide) rfl ?_
      refine zj_iload1 (n := 30) rfl dX9_tenant_29 ?_
      refine zj_iload2 (n := 31) rfl dX9_tenant_30 ?_
      refine zj_callV2 (n := 34) (a' := 0) (b' := 0) rfl dX9_tenant_31 zm_X9_126 (by decide) (by decide) rfl (Nat.le_of_ble_eq_true rfl) (Nat.le_of_ble_eq_true rfl) (Nat.le_of_ble_eq_true rfl) (Nat.le_of_ble_eq_true rfl) (jT_get hR.t.1 hn (by omega) (hR.t.c hn hk) ?_)
      refine zj_ireturn dX9_tenant_34 rfl rfl ?_
      have h := h (by simp only [a_tenant, c2, d2, if_true, Bool.and_true, Bool.true_and]) _ (hC.rf)
      simp only [a_tenant, c2, d2, xn_at (show n < 2 ^ 31 by omega), xn_at (show k < 2 ^ 31 by omega), if_true, Bool.and_true, Bool.true_and] at h
      exact h
theorem jX9_group {v : zV} {x : Int32} {z : Int32} {Q : Option Value → zM → Prop} {X : String → zM → Prop} {M : zM} (hC : zCl M v) (hW : zWF v) (hx1 : (a_group v x z).1 = 1 → X "java/lang/IndexOutOfBoundsException" M) (hx2 : (a_group v x z).1 = 2 → X "java/lang/IllegalArgumentException" M) (h : (a_group v x z).1 = 0 → ∀ M', zQn M M' → Q (some (.int (a_group v x z).2)) M') : zJ yX9_group cX9_group 3 (some .int) rX9_group Q X rX9_group.cells rX9_group.slots 0 (zEnt 3 [.ref 99, .int x, .int z]) [] M := by
  have hR := hC.1
  have h6 := hW.nN
  have h7 := hW.tN
  have h8 := hW.gN
  have h9 := hW.hN
  show zJ yX9_group cX9_group 3 (some .int) rX9_group Q X 2 12 0 [some (.ref 99), some (.int x), some (.int z)] [] M
  refine zj_aload0 (n := 1) rfl dX9_group_0 ?_
  refine zj_iload1 (n := 2) rfl dX9_group_1 ?_
  refine zj_callV1 (n := 5) (a' := 1) (b' := 6) rfl dX9_group_2 zm_X9_145 (by decide) (by decide) rfl (Nat.le_of_ble_eq_true rfl) (Nat.le_of_ble_eq_true rfl) (Nat.le_of_ble_eq_true rfl) (Nat.le_of_ble_eq_true rfl) (jX9_needGroup hR (fun c2 => ?_) (fun c2 => hx1 (by simp [a_group, c2])))
  obtain ⟨n, hn, rfl⟩ := (zin_iff (by omega)).mp c2
  refine zj_iload2 (n := 6) rfl dX9_group_5 ?_
  refine zj_if_lt (n := 9) (tgt := 19) rfl dX9_group_6 (by decide) (fun c6 => ?_) (fun c6 => ?_)
  · refine zj_iconstN_0 (n := 20) rfl dX9_group_19 ?_
    refine zj_callS1 (n := 23) (a' := 0) (b' := 0) rfl dX9_group_20 zm_X9_72 (by decide) (Nat.le_of_ble_eq_true rfl) (Nat.le_of_ble_eq_true rfl) (Nat.le_of_ble_eq_true rfl) (Nat.le_of_ble_eq_true rfl) (jX9_needArgument (p := false) (fun q => by cases q) (fun _ => hx2 (by simp [a_group, c2, zin_f1 c6])))
  · refine zj_iload2 (n := 10) rfl dX9_group_9 ?_
    refine zj_bipushN (v := 8) (n := 12) rfl dX9_group_10 (by decide) ?_
    refine zj_icmp_gt (n := 15) (tgt := 19) rfl dX9_group_12 (by decide) (fun c12 => ?_) (fun c12 => ?_)
    · refine zj_iconstN_0 (n := 20) rfl dX9_group_19 ?_
      refine zj_callS1 (n := 23) (a' := 0) (b' := 0) rfl dX9_group_20 zm_X9_72 (by decide) (Nat.le_of_ble_eq_true rfl) (Nat.le_of_ble_eq_true rfl) (Nat.le_of_ble_eq_true rfl) (Nat.le_of_ble_eq_true rfl) (jX9_needArgument (p := false) (fun q => by cases q) (fun _ => hx2 (by simp [a_group, c2, zin_fg (k := 8) (by decide) c12])))
    · refine zj_iconstN_1 (n := 16) rfl dX9_group_15 ?_
      refine zj_goto (tgt := 20) dX9_group_16 (by decide) ?_
      refine zj_callS1 (n := 23) (a' := 0) (b' := 0) rfl dX9_group_20 zm_X9_72 (by decide) (Nat.le_of_ble_eq_true rfl) (Nat.le_of_ble_eq_true rfl) (Nat.le_of_ble_eq_true rfl) (Nat.le_of_ble_eq_true rfl) (jX9_needArgument (p := true) (fun _ => ?_) (fun q => by cases q))
      have d2 : zin z 9 = true := zin_g (k := 8) (by decide) c6 c12
      obtain ⟨k, hk, rfl⟩ := (zin_iff (by decide)).mp d2
      refine zj_iload2 (n := 24) rfl dX9_group_23 ?_
      refine zj_bipushN (v := 8) (n := 26) rfl dX9_group_24 (by decide) ?_
      refine zj_icmpN_ne (n := 29) (tgt := 40) rfl dX9_group_26 (by decide) (by omega) (by omega) (fun c26 => ?_) (fun c26 => ?_)
      · refine zj_aload0 (n := 41) rfl dX9_group_40 ?_
        refine zj_getr (n := 44) (q := 0) rfl dX9_group_41 zf_X9_33 rfl (by decide) (by decide) rfl ?_
        refine zj_getr (n := 47) (q := 5) rfl dX9_group_44 zf_X9_91 rfl (by decide) (by decide) rfl ?_
        refine zj_iload1 (n := 48) rfl dX9_group_47 ?_
        refine zj_iload2 (n := 49) rfl dX9_group_48 ?_
        refine zj_callV2 (n := 52) (a' := 0) (b' := 0) rfl dX9_group_49 zm_X9_126 (by decide) (by decide) rfl (Nat.le_of_ble_eq_true rfl) (Nat.le_of_ble_eq_true rfl) (Nat.le_of_ble_eq_true rfl) (Nat.le_of_ble_eq_true rfl) (jT_get hR.g.1 hn (by omega) (hR.g.ck hn (by omega)) ?_)
        refine zj_ireturn dX9_group_52 rfl rfl ?_
        have h := h (by simp only [a_group, c2, d2, if_true, Bool.and_true, Bool.true_and]) _ (hC.rf)
        simp only [a_group, c2, d2, xn_at (show n < 2 ^ 31 by omega), xn_at (show k < 2 ^ 31 by omega), if_true, Bool.and_true, Bool.true_and] at h
        rw [show (if k < 7 then v (268 + 23 * n + k) else if k = 7 then vcost v n else vneed v 0 n) = (if k < 7 then v (268 + 23 * n + k) else vcost v n) from by by_cases q : k < 7; rw [if_pos q, if_pos q]; rw [if_neg q, if_neg q, if_pos (by omega)]] at h
        exact h
      · refine zj_aload0 (n := 30) rfl dX9_group_29 ?_
        refine zj_getr (n := 33) (q := 0) rfl dX9_group_30 zf_X9_33 rfl (by decide) (by decide) rfl ?_
        refine zj_iload1 (n := 34) rfl dX9_group_33 ?_
        refine zj_callV1 (n := 37) (a' := 0) (b' := 0) rfl dX9_group_34 zm_X9_148 (by decide) (by decide) rfl (Nat.le_of_ble_eq_true rfl) (Nat.le_of_ble_eq_true rfl) (Nat.le_of_ble_eq_true rfl) (Nat.le_of_ble_eq_true rfl) (jX6_needOf hR hW hn ?_)
        refine zj_goto (tgt := 52) dX9_group_37 (by decide) ?_
        refine zj_ireturn dX9_group_52 rfl rfl ?_
        have h := h (by simp only [a_group, c2, d2, if_true, Bool.and_true, Bool.true_and]) _ (hC.rf)
        simp only [a_group, c2, d2, xn_at (show n < 2 ^ 31 by omega), xn_at (show k < 2 ^ 31 by omega), if_true, Bool.and_true, Bool.true_and] at h
        rw [if_neg (by omega), if_neg (by omega)] at h
        exact h
theorem jX9_isIn {K n : Nat} {Q : Option Value → zM → Prop} {X : String → zM → Prop} {M : zM} (hK : K < 2 ^ 31) (hn : n < 31) (h : Q (some (.int (zb (K.testBit n)))) M) : zJ yX9_isIn cX9_isIn 2 (some .boolean) rX9_isIn Q X rX9_isIn.cells rX9_isIn.slots 0 (zEnt 2 [.int (nI K), .int (nI n)]) [] M := by
  show zJ yX9_isIn cX9_isIn 2 (some .boolean) rX9_isIn Q X 0 0 0 [some (.int (nI K)), some (.int (nI n))] [] M
  refine zj_iload0 (n := 1) rfl dX9_isIn_0 ?_
  refine zj_iload1 (n := 2) rfl dX9_isIn_1 ?_
  refine zj_ishrN (n := 3) rfl dX9_isIn_2 (by omega) (by omega) ?_
  refine zj_iconstN_1 (n := 4) rfl dX9_isIn_3 ?_
  refine zj_iandN1 (n := 5) rfl dX9_isIn_4 (Nat.lt_of_le_of_lt (Nat.div_le_self _ _) hK) ?_
  refine zj_ifN_eq (n := 8) (tgt := 12) rfl dX9_isIn_5 (by decide) (by omega) (fun c5 => ?_) (fun c5 => ?_)
  · refine zj_iconstN_0 (n := 13) rfl dX9_isIn_12 ?_
    exact zj_ireturn dX9_isIn_13 rfl rfl (zQi h (by rw [ztb0 c5]; rfl))
  · refine zj_iconstN_1 (n := 9) rfl dX9_isIn_8 ?_
    refine zj_goto (tgt := 13) dX9_isIn_9 (by decide) ?_
    exact zj_ireturn dX9_isIn_13 rfl rfl (zQi h (by rw [ztb c5]; rfl))
theorem jX9_groupsOn {v : zV} {x : Int32} {Q : Option Value → zM → Prop} {X : String → zM → Prop} {M : zM} (hC : zCl M v) (hW : zWF v) (hx1 : (a_groupsOn v x).1 = 1 → X "java/lang/IndexOutOfBoundsException" M) (h : (a_groupsOn v x).1 = 0 → ∀ M', zQn M M' → Q (some (.int (a_groupsOn v x).2)) M') : zJ yX9_groupsOn cX9_groupsOn 4 (some .int) rX9_groupsOn Q X rX9_groupsOn.cells rX9_groupsOn.slots 0 (zEnt 4 [.ref 99, .int x]) [] M := by
  have hR := hC.1
  have h6 := hW.nN
  have h7 := hW.tN
  have h8 := hW.gN
  have h9 := hW.hN
  show zJ yX9_groupsOn cX9_groupsOn 4 (some .int) rX9_groupsOn Q X 1 6 0 [some (.ref 99), some (.int x), none, none] [] M
  refine zj_aload0 (n := 1) rfl dX9_groupsOn_0 ?_
  refine zj_iload1 (n := 2) rfl dX9_groupsOn_1 ?_
  refine zj_callV1 (n := 5) (a' := 0) (b' := 0) rfl dX9_groupsOn_2 zm_X9_120 (by decide) (by decide) rfl (Nat.le_of_ble_eq_true rfl) (Nat.le_of_ble_eq_true rfl) (Nat.le_of_ble_eq_true rfl) (Nat.le_of_ble_eq_true rfl) (jX9_needNode hR (fun c2 => ?_) (fun c2 => hx1 (by simp [a_groupsOn, c2])))
  obtain ⟨n, hn, rfl⟩ := (zin_iff (by omega)).mp c2
  refine zj_iconstN_0 (n := 6) rfl dX9_groupsOn_5 ?_
  refine zj_istore2 (n := 7) rfl dX9_groupsOn_6 rfl (Nat.le_of_ble_eq_true rfl) ?_
  refine zj_iconstN_0 (n := 8) rfl dX9_groupsOn_7 ?_
  refine zj_istore3 (n := 9) rfl dX9_groupsOn_8 rfl (Nat.le_of_ble_eq_true rfl) ?_
  refine zFor_rule (P := fun g (_ : Unit) => ∀ m, m = zMask g (fun g => vhas v g (vsh v g) n) → zJ yX9_groupsOn cX9_groupsOn 4 (some .int) rX9_groupsOn Q X 0 0 9 [some (.ref 99), some (.int (nI n)), some (.int (nI m)), some (.int (nI g))] [] M) (n := v 8) (f := fun _ s => s) (s0 := ()) ?_ ?_ 0 rfl
  · intro g _ hg hk m hm
    refine zj_iload3 (n := 10) rfl dX9_groupsOn_9 ?_
    refine zj_aload0 (n := 11) rfl dX9_groupsOn_10 ?_
    refine zj_getr (n := 14) (q := 0) rfl dX9_groupsOn_11 zf_X9_33 rfl (by decide) (by decide) rfl ?_
    refine zj_getr (n := 17) (q := 5) rfl dX9_groupsOn_14 zf_X9_91 rfl (by decide) (by decide) rfl ?_
    refine zj_getiN (e := v 8) (n := 20) rfl dX9_groupsOn_17 zf_X9_95 rfl (by decide) (by decide) hR.g.1.2.2.2.1 ?_
    refine zj_icmpN_ge (n := 23) (tgt := 50) rfl dX9_groupsOn_20 (by decide) (by omega) (by omega) (fun c20 => by omega) (fun c20 => ?_)
    refine zj_aload0 (n := 24) rfl dX9_groupsOn_23 ?_
    refine zj_getr (n := 27) (q := 0) rfl dX9_groupsOn_24 zf_X9_33 rfl (by decide) (by decide) rfl ?_
    refine zj_iload3 (n := 28) rfl dX9_groupsOn_27 ?_
    refine zj_callV1 (n := 31) (a' := 0) (b' := 0) rfl dX9_groupsOn_28 zm_X9_129 (by decide) (by decide) rfl (Nat.le_of_ble_eq_true rfl) (Nat.le_of_ble_eq_true rfl) (Nat.le_of_ble_eq_true rfl) (Nat.le_of_ble_eq_true rfl) (jX6_nodeSet hR.i hR.g hg rfl (hW.sh hg).2 (Nat.le_refl _) (fun s hs => by have := hW.holds hg hs; omega) ?_)
    refine zj_iload1 (n := 32) rfl dX9_groupsOn_31 ?_
    refine zj_callS2 (n := 35) (a' := 0) (b' := 0) rfl dX9_groupsOn_32 zm_X9_132 (by decide) (Nat.le_of_ble_eq_true rfl) (Nat.le_of_ble_eq_true rfl) (Nat.le_of_ble_eq_true rfl) (Nat.le_of_ble_eq_true rfl) (jX9_isIn (by have := vnsk_lt v g (vsh v g); omega) (by omega) ?_)
    rw [vnsk_bit (by omega)]
    refine zj_ifB_eq (n := 38) (tgt := 44) rfl dX9_groupsOn_35 (by decide) (fun c35 => ?_) (fun c35 => ?_)
    · refine zj_iincN3 (n := 47) rfl dX9_groupsOn_44 rfl (Nat.le_of_ble_eq_true rfl) ?_
      refine zj_goto (tgt := 9) dX9_groupsOn_47 (by decide) ?_
      exact hk _ (zmn hm c35)
    · refine zj_iload2 (n := 39) rfl dX9_groupsOn_38 ?_
      refine zj_iconstN_1 (n := 40) rfl dX9_groupsOn_39 ?_
      refine zj_iload3 (n := 41) rfl dX9_groupsOn_40 ?_
      refine zj_ishlN1 (n := 42) rfl dX9_groupsOn_41 (by omega) ?_
      refine zj_ior (n := 43) rfl dX9_groupsOn_42 ?_
      refine zj_istore2 (n := 44) rfl dX9_groupsOn_43 rfl (Nat.le_of_ble_eq_true rfl) ?_
      refine zj_iincN3 (n := 47) rfl dX9_groupsOn_44 rfl (Nat.le_of_ble_eq_true rfl) ?_
      refine zj_goto (tgt := 9) dX9_groupsOn_47 (by decide) ?_
      rw [zmi hm (p := fun g => vhas v g (vsh v g) n) c35 (by omega)]
      exact hk _ rfl
  · intro m hm
    refine zj_iload3 (n := 10) rfl dX9_groupsOn_9 ?_
    refine zj_aload0 (n := 11) rfl dX9_groupsOn_10 ?_
    refine zj_getr (n := 14) (q := 0) rfl dX9_groupsOn_11 zf_X9_33 rfl (by decide) (by decide) rfl ?_
    refine zj_getr (n := 17) (q := 5) rfl dX9_groupsOn_14 zf_X9_91 rfl (by decide) (by decide) rfl ?_
    refine zj_getiN (e := v 8) (n := 20) rfl dX9_groupsOn_17 zf_X9_95 rfl (by decide) (by decide) hR.g.1.2.2.2.1 ?_
    refine zj_icmpN_ge (n := 23) (tgt := 50) rfl dX9_groupsOn_20 (by decide) (by omega) (by omega) (fun c20 => ?_) (fun c20 => by omega)
    refine zj_iload2 (n := 51) rfl dX9_groupsOn_50 ?_
    refine zj_ireturn dX9_groupsOn_51 rfl rfl ?_
    have h := h (by simp only [a_groupsOn, c2, if_true, Bool.and_true, Bool.true_and]) _ (hC.rf)
    simp only [a_groupsOn, c2, xn_at (show n < 2 ^ 31 by omega), if_true, Bool.and_true, Bool.true_and] at h
    rw [← hm] at h
    exact h
theorem jX9_clockwise {v : zV} {x : Int32} {z : Int32} {Q : Option Value → zM → Prop} {X : String → zM → Prop} {M : zM} (hC : zCl M v) (hW : zWF v) (hx1 : (a_clockwise v x z).1 = 1 → X "java/lang/IndexOutOfBoundsException" M) (h : (a_clockwise v x z).1 = 0 → ∀ M', zQn M M' → Q (some (.int (a_clockwise v x z).2)) M') : zJ yX9_clockwise cX9_clockwise 3 (some .int) rX9_clockwise Q X rX9_clockwise.cells rX9_clockwise.slots 0 (zEnt 3 [.ref 99, .int x, .int z]) [] M := by
  have hR := hC.1
  have h6 := hW.nN
  have h7 := hW.tN
  have h8 := hW.gN
  have h9 := hW.hN
  show zJ yX9_clockwise cX9_clockwise 3 (some .int) rX9_clockwise Q X 2 12 0 [some (.ref 99), some (.int x), some (.int z)] [] M
  refine zj_aload0 (n := 1) rfl dX9_clockwise_0 ?_
  refine zj_iload1 (n := 2) rfl dX9_clockwise_1 ?_
  refine zj_callV1 (n := 5) (a' := 1) (b' := 6) rfl dX9_clockwise_2 zm_X9_120 (by decide) (by decide) rfl (Nat.le_of_ble_eq_true rfl) (Nat.le_of_ble_eq_true rfl) (Nat.le_of_ble_eq_true rfl) (Nat.le_of_ble_eq_true rfl) (jX9_needNode hR (fun c2 => ?_) (fun c2 => hx1 (by simp [a_clockwise, c2])))
  obtain ⟨n, hn, rfl⟩ := (zin_iff (by omega)).mp c2
  refine zj_aload0 (n := 6) rfl dX9_clockwise_5 ?_
  refine zj_iload2 (n := 7) rfl dX9_clockwise_6 ?_
  refine zj_callV1 (n := 10) (a' := 0) (b' := 0) rfl dX9_clockwise_7 zm_X9_120 (by decide) (by decide) rfl (Nat.le_of_ble_eq_true rfl) (Nat.le_of_ble_eq_true rfl) (Nat.le_of_ble_eq_true rfl) (Nat.le_of_ble_eq_true rfl) (jX9_needNode hR (fun c7 => ?_) (fun c7 => hx1 (by simp [a_clockwise, c2, c7])))
  obtain ⟨k, hk, rfl⟩ := (zin_iff (by omega)).mp c7
  refine zj_aload0 (n := 11) rfl dX9_clockwise_10 ?_
  refine zj_getr (n := 14) (q := 0) rfl dX9_clockwise_11 zf_X9_33 rfl (by decide) (by decide) rfl ?_
  refine zj_iload2 (n := 15) rfl dX9_clockwise_14 ?_
  refine zj_aload0 (n := 16) rfl dX9_clockwise_15 ?_
  refine zj_getr (n := 19) (q := 0) rfl dX9_clockwise_16 zf_X9_33 rfl (by decide) (by decide) rfl ?_
  refine zj_getr (n := 22) (q := 1) rfl dX9_clockwise_19 zf_X9_123 rfl (by decide) (by decide) rfl ?_
  refine zj_iload1 (n := 23) rfl dX9_clockwise_22 ?_
  refine zj_iconstN_0 (n := 24) rfl dX9_clockwise_23 ?_
  refine zj_callV2 (n := 27) (a' := 0) (b' := 0) rfl dX9_clockwise_24 zm_X9_126 (by decide) (by decide) rfl (Nat.le_of_ble_eq_true rfl) (Nat.le_of_ble_eq_true rfl) (Nat.le_of_ble_eq_true rfl) (Nat.le_of_ble_eq_true rfl) (jT_get hR.n.1 (by omega) (by decide) (hR.n.c0 (by omega)) ?_)
  refine zj_callV2 (n := 30) (a' := 0) (b' := 0) rfl dX9_clockwise_27 zm_X9_136 (by decide) (by decide) rfl (Nat.le_of_ble_eq_true rfl) (Nat.le_of_ble_eq_true rfl) (Nat.le_of_ble_eq_true rfl) (Nat.le_of_ble_eq_true rfl) (jX6_wayTo (n := k) hR.i hR.n hk (hW.node hk).1 (by have := (hW.node hn).1; have : v (10 + 12 * n + 0) ≤ 9999 := this; omega) ?_)
  refine zj_ireturn dX9_clockwise_30 rfl rfl ?_
  have h := h (by simp only [a_clockwise, c2, c7, if_true, Bool.and_true, Bool.true_and]) _ (hC.rf)
  simp only [a_clockwise, c2, c7, xn_at (show n < 2 ^ 31 by omega), xn_at (show k < 2 ^ 31 by omega), if_true, Bool.and_true, Bool.true_and] at h
  exact h
theorem jX9_zoneShards {v : zV} {x : Int32} {Q : Option Value → zM → Prop} {X : String → zM → Prop} {M : zM} (hC : zCl M v) (hW : zWF v) (hx1 : (a_zoneShards v x).1 = 1 → X "java/lang/IllegalArgumentException" M) (h : (a_zoneShards v x).1 = 0 → ∀ M', zQn M M' → Q (some (.int (a_zoneShards v x).2)) M') : zJ yX9_zoneShards cX9_zoneShards 4 (some .int) rX9_zoneShards Q X rX9_zoneShards.cells rX9_zoneShards.slots 0 (zEnt 4 [.ref 99, .int x]) [] M := by
  have hR := hC.1
  have h6 := hW.nN
  have h7 := hW.tN
  have h8 := hW.gN
  have h9 := hW.hN
  show zJ yX9_zoneShards cX9_zoneShards 4 (some .int) rX9_zoneShards Q X 1 6 0 [some (.ref 99), some (.int x), none, none] [] M
  refine zj_iload1 (n := 1) rfl dX9_zoneShards_0 ?_
  refine zj_if_lt (n := 4) (tgt := 14) rfl dX9_zoneShards_1 (by decide) (fun c1 => ?_) (fun c1 => ?_)
  · refine zj_iconstN_0 (n := 15) rfl dX9_zoneShards_14 ?_
    refine zj_callS1 (n := 18) (a' := 0) (b' := 0) rfl dX9_zoneShards_15 zm_X9_72 (by decide) (Nat.le_of_ble_eq_true rfl) (Nat.le_of_ble_eq_true rfl) (Nat.le_of_ble_eq_true rfl) (Nat.le_of_ble_eq_true rfl) (jX9_needArgument (p := false) (fun q => by cases q) (fun _ => hx1 (by simp [a_zoneShards, zin_f1 c1])))
  · refine zj_iload1 (n := 5) rfl dX9_zoneShards_4 ?_
    refine zj_bipushN (v := 10) (n := 7) rfl dX9_zoneShards_5 (by decide) ?_
    refine zj_icmp_ge (n := 10) (tgt := 14) rfl dX9_zoneShards_7 (by decide) (fun c7 => ?_) (fun c7 => ?_)
    · refine zj_iconstN_0 (n := 15) rfl dX9_zoneShards_14 ?_
      refine zj_callS1 (n := 18) (a' := 0) (b' := 0) rfl dX9_zoneShards_15 zm_X9_72 (by decide) (Nat.le_of_ble_eq_true rfl) (Nat.le_of_ble_eq_true rfl) (Nat.le_of_ble_eq_true rfl) (Nat.le_of_ble_eq_true rfl) (jX9_needArgument (p := false) (fun q => by cases q) (fun _ => hx1 (by simp [a_zoneShards, zin_f2 (n := 10) c7])))
    · refine zj_iconstN_1 (n := 11) rfl dX9_zoneShards_10 ?_
      refine zj_goto (tgt := 15) dX9_zoneShards_11 (by decide) ?_
      refine zj_callS1 (n := 18) (a' := 0) (b' := 0) rfl dX9_zoneShards_15 zm_X9_72 (by decide) (Nat.le_of_ble_eq_true rfl) (Nat.le_of_ble_eq_true rfl) (Nat.le_of_ble_eq_true rfl) (Nat.le_of_ble_eq_true rfl) (jX9_needArgument (p := true) (fun _ => ?_) (fun q => by cases q))
      have c2 : zin x 10 = true := zin_t c1 c7
      obtain ⟨n, hn, rfl⟩ := (zin_iff (by decide)).mp c2
      refine zj_iconstN_0 (n := 19) rfl dX9_zoneShards_18 ?_
      refine zj_istore2 (n := 20) rfl dX9_zoneShards_19 rfl (Nat.le_of_ble_eq_true rfl) ?_
      refine zj_iconstN_0 (n := 21) rfl dX9_zoneShards_20 ?_
      refine zj_istore3 (n := 22) rfl dX9_zoneShards_21 rfl (Nat.le_of_ble_eq_true rfl) ?_
      refine zFor_rule (P := fun k (_ : Unit) => zJ yX9_zoneShards cX9_zoneShards 4 (some .int) rX9_zoneShards Q X 0 0 22 [some (.ref 99), some (.int (nI n)), some (.int (nI (vzsum v n k))), some (.int (nI k))] [] M) (n := v 6) (f := fun _ s => s) (s0 := ()) ?_ ?_
      · intro k _ hk9 hk
        have hz := (hW.node hk9).2.1
        have hz : v (10 + 12 * k + 1) ≤ 9 := hz
        have es : vzsum v n (k + 1) = if v (10 + 12 * k + 1) = n then vzsum v n k + vcnt v (v 8) k else vzsum v n k := rfl
        refine zj_iload3 (n := 23) rfl dX9_zoneShards_22 ?_
        refine zj_aload0 (n := 24) rfl dX9_zoneShards_23 ?_
        refine zj_getr (n := 27) (q := 0) rfl dX9_zoneShards_24 zf_X9_33 rfl (by decide) (by decide) rfl ?_
        refine zj_getr (n := 30) (q := 1) rfl dX9_zoneShards_27 zf_X9_123 rfl (by decide) (by decide) rfl ?_
        refine zj_getiN (e := v 6) (n := 33) rfl dX9_zoneShards_30 zf_X9_95 rfl (by decide) (by decide) hR.n.1.2.2.2.1 ?_
        refine zj_icmpN_ge (n := 36) (tgt := 73) rfl dX9_zoneShards_33 (by decide) (by omega) (by omega) (fun c33 => by omega) (fun c33 => ?_)
        refine zj_aload0 (n := 37) rfl dX9_zoneShards_36 ?_
        refine zj_getr (n := 40) (q := 0) rfl dX9_zoneShards_37 zf_X9_33 rfl (by decide) (by decide) rfl ?_
        refine zj_getr (n := 43) (q := 1) rfl dX9_zoneShards_40 zf_X9_123 rfl (by decide) (by decide) rfl ?_
        refine zj_iload3 (n := 44) rfl dX9_zoneShards_43 ?_
        refine zj_iconstN_1 (n := 45) rfl dX9_zoneShards_44 ?_
        refine zj_callV2 (n := 48) (a' := 0) (b' := 0) rfl dX9_zoneShards_45 zm_X9_126 (by decide) (by decide) rfl (Nat.le_of_ble_eq_true rfl) (Nat.le_of_ble_eq_true rfl) (Nat.le_of_ble_eq_true rfl) (Nat.le_of_ble_eq_true rfl) (jT_get hR.n.1 (by omega) (by decide) (hR.n.c1 (by omega)) ?_)
        refine zj_iload1 (n := 49) rfl dX9_zoneShards_48 ?_
        refine zj_icmpN_ne (n := 52) (tgt := 67) rfl dX9_zoneShards_49 (by decide) (by omega) (by omega) (fun c49 => ?_) (fun c49 => ?_)
        · refine zj_iincN3 (n := 70) rfl dX9_zoneShards_67 rfl (Nat.le_of_ble_eq_true rfl) ?_
          refine zj_goto (tgt := 22) dX9_zoneShards_70 (by decide) ?_
          rw [es, if_neg c49] at hk
          exact hk
        · refine zj_iload2 (n := 53) rfl dX9_zoneShards_52 ?_
          refine zj_aload0 (n := 54) rfl dX9_zoneShards_53 ?_
          refine zj_getr (n := 57) (q := 0) rfl dX9_zoneShards_54 zf_X9_33 rfl (by decide) (by decide) rfl ?_
          refine zj_getr (n := 60) (q := 1) rfl dX9_zoneShards_57 zf_X9_123 rfl (by decide) (by decide) rfl ?_
          refine zj_iload3 (n := 61) rfl dX9_zoneShards_60 ?_
          refine zj_iconstN_4 (n := 62) rfl dX9_zoneShards_61 ?_
          refine zj_callV2 (n := 65) (a' := 0) (b' := 0) rfl dX9_zoneShards_62 zm_X9_126 (by decide) (by decide) rfl (Nat.le_of_ble_eq_true rfl) (Nat.le_of_ble_eq_true rfl) (Nat.le_of_ble_eq_true rfl) (Nat.le_of_ble_eq_true rfl) (jT_get hR.n.1 (by omega) (by decide) (hR.n.c4 (by omega)) ?_)
          refine zj_iaddN (n := 66) rfl dX9_zoneShards_65 ?_
          refine zj_istore2 (n := 67) rfl dX9_zoneShards_66 rfl (Nat.le_of_ble_eq_true rfl) ?_
          refine zj_iincN3 (n := 70) rfl dX9_zoneShards_67 rfl (Nat.le_of_ble_eq_true rfl) ?_
          refine zj_goto (tgt := 22) dX9_zoneShards_70 (by decide) ?_
          rw [es, if_pos c49] at hk
          exact hk
      · skip
        refine zj_iload3 (n := 23) rfl dX9_zoneShards_22 ?_
        refine zj_aload0 (n := 24) rfl dX9_zoneShards_23 ?_
        refine zj_getr (n := 27) (q := 0) rfl dX9_zoneShards_24 zf_X9_33 rfl (by decide) (by decide) rfl ?_
        refine zj_getr (n := 30) (q := 1) rfl dX9_zoneShards_27 zf_X9_123 rfl (by decide) (by decide) rfl ?_
        refine zj_getiN (e := v 6) (n := 33) rfl dX9_zoneShards_30 zf_X9_95 rfl (by decide) (by decide) hR.n.1.2.2.2.1 ?_
        refine zj_icmpN_ge (n := 36) (tgt := 73) rfl dX9_zoneShards_33 (by decide) (by omega) (by omega) (fun c33 => ?_) (fun c33 => by omega)
        refine zj_iload2 (n := 74) rfl dX9_zoneShards_73 ?_
        refine zj_ireturn dX9_zoneShards_74 rfl rfl ?_
        have h := h (by simp only [a_zoneShards, c2, if_true, Bool.and_true, Bool.true_and]) _ (hC.rf)
        simp only [a_zoneShards, c2, xn_at (show n < 2 ^ 31 by omega), if_true, Bool.and_true, Bool.true_and] at h
        exact h
theorem jX9_missing {v : zV} {x : Int32} {Q : Option Value → zM → Prop} {X : String → zM → Prop} {M : zM} (hC : zCl M v) (hW : zWF v) (hx1 : (a_missing v x).1 = 1 → X "java/lang/IndexOutOfBoundsException" M) (h : (a_missing v x).1 = 0 → ∀ M', zQn M M' → Q (some (.int (a_missing v x).2)) M') : zJ yX9_missing cX9_missing 2 (some .int) rX9_missing Q X rX9_missing.cells rX9_missing.slots 0 (zEnt 2 [.ref 99, .int x]) [] M := by
  have hR := hC.1
  have h6 := hW.nN
  have h7 := hW.tN
  have h8 := hW.gN
  have h9 := hW.hN
  show zJ yX9_missing cX9_missing 2 (some .int) rX9_missing Q X 1 6 0 [some (.ref 99), some (.int x)] [] M
  refine zj_aload0 (n := 1) rfl dX9_missing_0 ?_
  refine zj_iload1 (n := 2) rfl dX9_missing_1 ?_
  refine zj_callV1 (n := 5) (a' := 0) (b' := 0) rfl dX9_missing_2 zm_X9_145 (by decide) (by decide) rfl (Nat.le_of_ble_eq_true rfl) (Nat.le_of_ble_eq_true rfl) (Nat.le_of_ble_eq_true rfl) (Nat.le_of_ble_eq_true rfl) (jX9_needGroup hR (fun c2 => ?_) (fun c2 => hx1 (by simp [a_missing, c2])))
  obtain ⟨n, hn, rfl⟩ := (zin_iff (by omega)).mp c2
  refine zj_aload0 (n := 6) rfl dX9_missing_5 ?_
  refine zj_getr (n := 9) (q := 0) rfl dX9_missing_6 zf_X9_33 rfl (by decide) (by decide) rfl ?_
  refine zj_iload1 (n := 10) rfl dX9_missing_9 ?_
  refine zj_callV1 (n := 13) (a' := 0) (b' := 0) rfl dX9_missing_10 zm_X9_158 (by decide) (by decide) rfl (Nat.le_of_ble_eq_true rfl) (Nat.le_of_ble_eq_true rfl) (Nat.le_of_ble_eq_true rfl) (Nat.le_of_ble_eq_true rfl) (jX6_missingSet hR hW hn ?_)
  refine zj_ireturn dX9_missing_13 rfl rfl ?_
  have h := h (by simp only [a_missing, c2, if_true, Bool.and_true, Bool.true_and]) _ (hC.rf)
  simp only [a_missing, c2, xn_at (show n < 2 ^ 31 by omega), if_true, Bool.and_true, Bool.true_and] at h
  exact h
theorem jX9_target {v : zV} {x : Int32} {Q : Option Value → zM → Prop} {X : String → zM → Prop} {M : zM} (hC : zCl M v) (hW : zWF v) (hx1 : (a_target v x).1 = 1 → X "java/lang/IndexOutOfBoundsException" M) (h : (a_target v x).1 = 0 → ∀ M', zQn M M' → Q (some (.int (a_target v x).2)) M') : zJ yX9_target cX9_target 2 (some .int) rX9_target Q X rX9_target.cells rX9_target.slots 0 (zEnt 2 [.ref 99, .int x]) [] M := by
  have hR := hC.1
  have h6 := hW.nN
  have h7 := hW.tN
  have h8 := hW.gN
  have h9 := hW.hN
  show zJ yX9_target cX9_target 2 (some .int) rX9_target Q X 1 6 0 [some (.ref 99), some (.int x)] [] M
  refine zj_aload0 (n := 1) rfl dX9_target_0 ?_
  refine zj_iload1 (n := 2) rfl dX9_target_1 ?_
  refine zj_callV1 (n := 5) (a' := 0) (b' := 0) rfl dX9_target_2 zm_X9_145 (by decide) (by decide) rfl (Nat.le_of_ble_eq_true rfl) (Nat.le_of_ble_eq_true rfl) (Nat.le_of_ble_eq_true rfl) (Nat.le_of_ble_eq_true rfl) (jX9_needGroup hR (fun c2 => ?_) (fun c2 => hx1 (by simp [a_target, c2])))
  obtain ⟨n, hn, rfl⟩ := (zin_iff (by omega)).mp c2
  refine zj_aload0 (n := 6) rfl dX9_target_5 ?_
  refine zj_getr (n := 9) (q := 0) rfl dX9_target_6 zf_X9_33 rfl (by decide) (by decide) rfl ?_
  refine zj_iload1 (n := 10) rfl dX9_target_9 ?_
  refine zj_callV1 (n := 13) (a' := 0) (b' := 0) rfl dX9_target_10 zm_X9_206 (by decide) (by decide) rfl (Nat.le_of_ble_eq_true rfl) (Nat.le_of_ble_eq_true rfl) (Nat.le_of_ble_eq_true rfl) (Nat.le_of_ble_eq_true rfl) (jX6_targetOf hR hW hn ?_)
  refine zj_ireturn dX9_target_13 rfl rfl ?_
  have h := h (by simp only [a_target, c2, if_true, Bool.and_true, Bool.true_and]) _ (hC.rf)
  simp only [a_target, c2, xn_at (show n < 2 ^ 31 by omega), if_true, Bool.and_true, Bool.true_and] at h
  exact h
theorem jX9_damaged {v : zV} {Q : Option Value → zM → Prop} {X : String → zM → Prop} {M : zM} (hC : zCl M v) (hW : zWF v) (h : (a_damaged v).1 = 0 → ∀ M', zQn M M' → Q (some (.int (a_damaged v).2)) M') : zJ yX9_damaged cX9_damaged 1 (some .int) rX9_damaged Q X rX9_damaged.cells rX9_damaged.slots 0 (zEnt 1 [.ref 99]) [] M := by
  have hR := hC.1
  have h6 := hW.nN
  have h7 := hW.tN
  have h8 := hW.gN
  have h9 := hW.hN
  show zJ yX9_damaged cX9_damaged 1 (some .int) rX9_damaged Q X 0 0 0 [some (.ref 99)] [] M
  refine zj_aload0 (n := 1) rfl dX9_damaged_0 ?_
  refine zj_getr (n := 4) (q := 0) rfl dX9_damaged_1 zf_X9_33 rfl (by decide) (by decide) rfl ?_
  refine zj_callV0 (n := 7) (a' := 0) (b' := 0) rfl dX9_damaged_4 zm_X9_172 (by decide) (by decide) rfl (Nat.le_of_ble_eq_true rfl) (Nat.le_of_ble_eq_true rfl) (Nat.le_of_ble_eq_true rfl) (Nat.le_of_ble_eq_true rfl) (jX6_damagedSet hR hW ?_)
  exact zj_ireturn dX9_damaged_7 rfl rfl (h rfl _ hC.rf)
theorem jX9_lost {v : zV} {Q : Option Value → zM → Prop} {X : String → zM → Prop} {M : zM} (hC : zCl M v) (hW : zWF v) (h : (a_lost v).1 = 0 → ∀ M', zQn M M' → Q (some (.int (a_lost v).2)) M') : zJ yX9_lost cX9_lost 1 (some .int) rX9_lost Q X rX9_lost.cells rX9_lost.slots 0 (zEnt 1 [.ref 99]) [] M := by
  have hR := hC.1
  have h6 := hW.nN
  have h7 := hW.tN
  have h8 := hW.gN
  have h9 := hW.hN
  show zJ yX9_lost cX9_lost 1 (some .int) rX9_lost Q X 0 0 0 [some (.ref 99)] [] M
  refine zj_aload0 (n := 1) rfl dX9_lost_0 ?_
  refine zj_getr (n := 4) (q := 0) rfl dX9_lost_1 zf_X9_33 rfl (by decide) (by decide) rfl ?_
  refine zj_iconstN_0 (n := 5) rfl dX9_lost_4 ?_
  refine zj_callV1 (n := 8) (a' := 0) (b' := 0) rfl dX9_lost_5 zm_X9_176 (by decide) (by decide) rfl (Nat.le_of_ble_eq_true rfl) (Nat.le_of_ble_eq_true rfl) (Nat.le_of_ble_eq_true rfl) (Nat.le_of_ble_eq_true rfl) (jX6_lostSet hR hW (by decide) ?_)
  exact zj_ireturn dX9_lost_8 rfl rfl (h rfl _ hC.rf)
theorem jX9_bandwidth {v : zV} {Q : Option Value → zM → Prop} {X : String → zM → Prop} {M : zM} (hC : zCl M v) (hW : zWF v) (h : (a_bandwidth v).1 = 0 → ∀ M', zQn M M' → Q (some (.int (a_bandwidth v).2)) M') : zJ yX9_bandwidth cX9_bandwidth 1 (some .int) rX9_bandwidth Q X rX9_bandwidth.cells rX9_bandwidth.slots 0 (zEnt 1 [.ref 99]) [] M := by
  have hR := hC.1
  have h6 := hW.nN
  have h7 := hW.tN
  have h8 := hW.gN
  have h9 := hW.hN
  show zJ yX9_bandwidth cX9_bandwidth 1 (some .int) rX9_bandwidth Q X 0 0 0 [some (.ref 99)] [] M
  refine zj_aload0 (n := 1) rfl dX9_bandwidth_0 ?_
  refine zj_getr (n := 4) (q := 0) rfl dX9_bandwidth_1 zf_X9_33 rfl (by decide) (by decide) rfl ?_
  refine zj_callV0 (n := 7) (a' := 0) (b' := 0) rfl dX9_bandwidth_4 zm_X9_221 (by decide) (by decide) rfl (Nat.le_of_ble_eq_true rfl) (Nat.le_of_ble_eq_true rfl) (Nat.le_of_ble_eq_true rfl) (Nat.le_of_ble_eq_true rfl) (jX6_unitsAtHand hR hW ?_)
  exact zj_ireturn dX9_bandwidth_7 rfl rfl (h rfl _ hC.rf)
theorem jX9_nextRound {v : zV} {Q : Option Value → zM → Prop} {X : String → zM → Prop} {M : zM} (hC : zCl M v) (hW : zWF v) (h : (a_nextRound v).1 = 0 → ∀ M', zQn M M' → Q (some (.int (a_nextRound v).2)) M') : zJ yX9_nextRound cX9_nextRound 1 (some .int) rX9_nextRound Q X rX9_nextRound.cells rX9_nextRound.slots 0 (zEnt 1 [.ref 99]) [] M := by
  have hR := hC.1
  have h6 := hW.nN
  have h7 := hW.tN
  have h8 := hW.gN
  have h9 := hW.hN
  show zJ yX9_nextRound cX9_nextRound 1 (some .int) rX9_nextRound Q X 0 0 0 [some (.ref 99)] [] M
  refine zj_aload0 (n := 1) rfl dX9_nextRound_0 ?_
  refine zj_getr (n := 4) (q := 0) rfl dX9_nextRound_1 zf_X9_33 rfl (by decide) (by decide) rfl ?_
  refine zj_getiN (e := v 5) (n := 7) rfl dX9_nextRound_4 zf_X9_224 rfl (by decide) (by decide) (hR.s 5 (by decide)) ?_
  exact zj_ireturn dX9_nextRound_7 rfl rfl (h rfl _ hC.rf)
theorem jX9_historySize {v : zV} {Q : Option Value → zM → Prop} {X : String → zM → Prop} {M : zM} (hC : zCl M v) (hW : zWF v) (h : (a_historySize v).1 = 0 → ∀ M', zQn M M' → Q (some (.int (a_historySize v).2)) M') : zJ yX9_historySize cX9_historySize 1 (some .int) rX9_historySize Q X rX9_historySize.cells rX9_historySize.slots 0 (zEnt 1 [.ref 99]) [] M := by
  have hR := hC.1
  have h6 := hW.nN
  have h7 := hW.tN
  have h8 := hW.gN
  have h9 := hW.hN
  show zJ yX9_historySize cX9_historySize 1 (some .int) rX9_historySize Q X 0 0 0 [some (.ref 99)] [] M
  refine zj_aload0 (n := 1) rfl dX9_historySize_0 ?_
  refine zj_getr (n := 4) (q := 0) rfl dX9_historySize_1 zf_X9_33 rfl (by decide) (by decide) rfl ?_
  refine zj_getr (n := 7) (q := 7) rfl dX9_historySize_4 zf_X9_302 rfl (by decide) (by decide) rfl ?_
  refine zj_getiN (e := v 9) (n := 10) rfl dX9_historySize_7 zf_X9_95 rfl (by decide) (by decide) hR.p.1.2.2.2.1 ?_
  exact zj_ireturn dX9_historySize_10 rfl rfl (h rfl _ hC.rf)
theorem jX9_loss {v : zV} {x : Int32} {Q : Option Value → zM → Prop} {X : String → zM → Prop} {M : zM} (hC : zCl M v) (hW : zWF v) (hx1 : (a_loss v x).1 = 1 → X "java/lang/IndexOutOfBoundsException" M) (h : (a_loss v x).1 = 0 → ∀ M', zQn M M' → Q (some (.int (a_loss v x).2)) M') : zJ yX9_loss cX9_loss 2 (some .int) rX9_loss Q X rX9_loss.cells rX9_loss.slots 0 (zEnt 2 [.ref 99, .int x]) [] M := by
  have hR := hC.1
  have h6 := hW.nN
  have h7 := hW.tN
  have h8 := hW.gN
  have h9 := hW.hN
  show zJ yX9_loss cX9_loss 2 (some .int) rX9_loss Q X 1 6 0 [some (.ref 99), some (.int x)] [] M
  refine zj_aload0 (n := 1) rfl dX9_loss_0 ?_
  refine zj_iload1 (n := 2) rfl dX9_loss_1 ?_
  refine zj_callV1 (n := 5) (a' := 0) (b' := 0) rfl dX9_loss_2 zm_X9_145 (by decide) (by decide) rfl (Nat.le_of_ble_eq_true rfl) (Nat.le_of_ble_eq_true rfl) (Nat.le_of_ble_eq_true rfl) (Nat.le_of_ble_eq_true rfl) (jX9_needGroup hR (fun c2 => ?_) (fun c2 => hx1 (by simp [a_loss, c2])))
  obtain ⟨n, hn, rfl⟩ := (zin_iff (by omega)).mp c2
  refine zj_aload0 (n := 6) rfl dX9_loss_5 ?_
  refine zj_getr (n := 9) (q := 105) rfl dX9_loss_6 zf_X9_40 rfl (by decide) (by decide) rfl ?_
  refine zj_getr (n := 12) (q := 106) rfl dX9_loss_9 zf_X9_179 rfl (by decide) (by decide) rfl ?_
  refine zj_aload0 (n := 13) rfl dX9_loss_12 ?_
  refine zj_getr (n := 16) (q := 0) rfl dX9_loss_13 zf_X9_33 rfl (by decide) (by decide) rfl ?_
  refine zj_iload1 (n := 17) rfl dX9_loss_16 ?_
  refine zj_iconstN_0 (n := 18) rfl dX9_loss_17 ?_
  refine zj_callV3 (n := 21) (a' := 0) (b' := 0) rfl dX9_loss_18 zm_X9_183 (by decide) (by decide) rfl (Nat.le_of_ble_eq_true rfl) (Nat.le_of_ble_eq_true rfl) (Nat.le_of_ble_eq_true rfl) (Nat.le_of_ble_eq_true rfl) (jX4_lossOf (Or.inl rfl) hR hW hn (by decide) ?_)
  intro L hL
  refine zj_ireturn dX9_loss_21 rfl rfl ?_
  have h := h (by simp only [a_loss, c2, if_true, Bool.and_true, Bool.true_and]) _ ((hC.ofL hL))
  simp only [a_loss, c2, xn_at (show n < 2 ^ 31 by omega), if_true, Bool.and_true, Bool.true_and] at h
  exact h
theorem jX9_offer {v : zV} {x : Int32} {Q : Option Value → zM → Prop} {X : String → zM → Prop} {M : zM} (hC : zCl M v) (hW : zWF v) (hx1 : (a_offer v x).1 = 1 → X "java/lang/IndexOutOfBoundsException" M) (h : (a_offer v x).1 = 0 → ∀ M', zQn M M' → Q (some (.int (a_offer v x).2)) M') : zJ yX9_offer cX9_offer 2 (some .int) rX9_offer Q X rX9_offer.cells rX9_offer.slots 0 (zEnt 2 [.ref 99, .int x]) [] M := by
  have hR := hC.1
  have h6 := hW.nN
  have h7 := hW.tN
  have h8 := hW.gN
  have h9 := hW.hN
  show zJ yX9_offer cX9_offer 2 (some .int) rX9_offer Q X 1 6 0 [some (.ref 99), some (.int x)] [] M
  refine zj_aload0 (n := 1) rfl dX9_offer_0 ?_
  refine zj_iload1 (n := 2) rfl dX9_offer_1 ?_
  refine zj_callV1 (n := 5) (a' := 0) (b' := 0) rfl dX9_offer_2 zm_X9_145 (by decide) (by decide) rfl (Nat.le_of_ble_eq_true rfl) (Nat.le_of_ble_eq_true rfl) (Nat.le_of_ble_eq_true rfl) (Nat.le_of_ble_eq_true rfl) (jX9_needGroup hR (fun c2 => ?_) (fun c2 => hx1 (by simp [a_offer, c2])))
  obtain ⟨n, hn, rfl⟩ := (zin_iff (by omega)).mp c2
  refine zj_aload0 (n := 6) rfl dX9_offer_5 ?_
  refine zj_getr (n := 9) (q := 105) rfl dX9_offer_6 zf_X9_40 rfl (by decide) (by decide) rfl ?_
  refine zj_aload0 (n := 10) rfl dX9_offer_9 ?_
  refine zj_getr (n := 13) (q := 0) rfl dX9_offer_10 zf_X9_33 rfl (by decide) (by decide) rfl ?_
  refine zj_iload1 (n := 14) rfl dX9_offer_13 ?_
  refine zj_callV2 (n := 17) (a' := 0) (b' := 0) rfl dX9_offer_14 zm_X9_199 (by decide) (by decide) rfl (Nat.le_of_ble_eq_true rfl) (Nat.le_of_ble_eq_true rfl) (Nat.le_of_ble_eq_true rfl) (Nat.le_of_ble_eq_true rfl) (jX0_offerOf (Or.inl rfl) hR hW hn ?_)
  intro L hL
  refine zj_ireturn dX9_offer_17 rfl rfl ?_
  have h := h (by simp only [a_offer, c2, if_true, Bool.and_true, Bool.true_and]) _ ((hC.ofL hL))
  simp only [a_offer, c2, xn_at (show n < 2 ^ 31 by omega), if_true, Bool.and_true, Bool.true_and] at h
  exact h
theorem jX9_bids {v : zV} {x : Int32} {Q : Option Value → zM → Prop} {X : String → zM → Prop} {M : zM} (hC : zCl M v) (hW : zWF v) (hx1 : (a_bids v x).1 = 1 → X "java/lang/IndexOutOfBoundsException" M) (h : (a_bids v x).1 = 0 → ∀ M', zQn M M' → Q (some (.int (a_bids v x).2)) M') : zJ yX9_bids cX9_bids 2 (some .boolean) rX9_bids Q X rX9_bids.cells rX9_bids.slots 0 (zEnt 2 [.ref 99, .int x]) [] M := by
  have hR := hC.1
  have h6 := hW.nN
  have h7 := hW.tN
  have h8 := hW.gN
  have h9 := hW.hN
  show zJ yX9_bids cX9_bids 2 (some .boolean) rX9_bids Q X 1 6 0 [some (.ref 99), some (.int x)] [] M
  refine zj_aload0 (n := 1) rfl dX9_bids_0 ?_
  refine zj_iload1 (n := 2) rfl dX9_bids_1 ?_
  refine zj_callV1 (n := 5) (a' := 0) (b' := 0) rfl dX9_bids_2 zm_X9_145 (by decide) (by decide) rfl (Nat.le_of_ble_eq_true rfl) (Nat.le_of_ble_eq_true rfl) (Nat.le_of_ble_eq_true rfl) (Nat.le_of_ble_eq_true rfl) (jX9_needGroup hR (fun c2 => ?_) (fun c2 => hx1 (by simp [a_bids, c2])))
  obtain ⟨n, hn, rfl⟩ := (zin_iff (by omega)).mp c2
  refine zj_aload0 (n := 6) rfl dX9_bids_5 ?_
  refine zj_getr (n := 9) (q := 105) rfl dX9_bids_6 zf_X9_40 rfl (by decide) (by decide) rfl ?_
  refine zj_aload0 (n := 10) rfl dX9_bids_9 ?_
  refine zj_getr (n := 13) (q := 0) rfl dX9_bids_10 zf_X9_33 rfl (by decide) (by decide) rfl ?_
  refine zj_iload1 (n := 14) rfl dX9_bids_13 ?_
  refine zj_callV2 (n := 17) (a' := 0) (b' := 0) rfl dX9_bids_14 zm_X9_203 (by decide) (by decide) rfl (Nat.le_of_ble_eq_true rfl) (Nat.le_of_ble_eq_true rfl) (Nat.le_of_ble_eq_true rfl) (Nat.le_of_ble_eq_true rfl) (jX0_bidOf (Or.inl rfl) hR hW hn ?_)
  intro L hL
  have hvo := voffer_le v 0 n
  refine zj_ifN_le (n := 20) (tgt := 24) rfl dX9_bids_17 (by decide) (by split <;> omega) (fun c17 => ?_) (fun c17 => ?_)
  · refine zj_iconstN_0 (n := 25) rfl dX9_bids_24 ?_
    refine zj_ireturn dX9_bids_25 rfl rfl ?_
    have h := h (by simp only [a_bids, c2, if_true, Bool.and_true, Bool.true_and]) _ ((hC.ofL hL))
    simp only [a_bids, c2, xn_at (show n < 2 ^ 31 by omega), if_true, Bool.and_true, Bool.true_and] at h
    rw [show vbid v 0 n = false from by cases e : vbid v 0 n with | false => rfl | true => (rw [e, if_pos rfl] at c17; have := e; unfold vbid at this; simp only [Bool.and_eq_true, decide_eq_true_eq] at this; have := this.2; omega)] at h
    exact h
  · refine zj_iconstN_1 (n := 21) rfl dX9_bids_20 ?_
    refine zj_goto (tgt := 25) dX9_bids_21 (by decide) ?_
    refine zj_ireturn dX9_bids_25 rfl rfl ?_
    have h := h (by simp only [a_bids, c2, if_true, Bool.and_true, Bool.true_and]) _ ((hC.ofL hL))
    simp only [a_bids, c2, xn_at (show n < 2 ^ 31 by omega), if_true, Bool.and_true, Bool.true_and] at h
    rw [show vbid v 0 n = true from by cases e : vbid v 0 n with | true => rfl | false => (rw [e, if_neg (by decide)] at c17; omega)] at h
    exact h
theorem jX9_lossWithout {v : zV} {x : Int32} {z : Int32} {Q : Option Value → zM → Prop} {X : String → zM → Prop} {M : zM} (hC : zCl M v) (hW : zWF v) (hx1 : (a_lossWithout v x z).1 = 1 → X "java/lang/IndexOutOfBoundsException" M) (h : (a_lossWithout v x z).1 = 0 → ∀ M', zQn M M' → Q (some (.int (a_lossWithout v x z).2)) M') : zJ yX9_lossWithout cX9_lossWithout 3 (some .int) rX9_lossWithout Q X rX9_lossWithout.cells rX9_lossWithout.slots 0 (zEnt 3 [.ref 99, .int x, .int z]) [] M := by
  have hR := hC.1
  have h6 := hW.nN
  have h7 := hW.tN
  have h8 := hW.gN
  have h9 := hW.hN
  show zJ yX9_lossWithout cX9_lossWithout 3 (some .int) rX9_lossWithout Q X 2 12 0 [some (.ref 99), some (.int x), some (.int z)] [] M
  refine zj_aload0 (n := 1) rfl dX9_lossWithout_0 ?_
  refine zj_iload1 (n := 2) rfl dX9_lossWithout_1 ?_
  refine zj_callV1 (n := 5) (a' := 1) (b' := 6) rfl dX9_lossWithout_2 zm_X9_145 (by decide) (by decide) rfl (Nat.le_of_ble_eq_true rfl) (Nat.le_of_ble_eq_true rfl) (Nat.le_of_ble_eq_true rfl) (Nat.le_of_ble_eq_true rfl) (jX9_needGroup hR (fun c2 => ?_) (fun c2 => hx1 (by simp [a_lossWithout, c2])))
  obtain ⟨n, hn, rfl⟩ := (zin_iff (by omega)).mp c2
  refine zj_aload0 (n := 6) rfl dX9_lossWithout_5 ?_
  refine zj_iload2 (n := 7) rfl dX9_lossWithout_6 ?_
  refine zj_callV1 (n := 10) (a' := 0) (b' := 0) rfl dX9_lossWithout_7 zm_X9_120 (by decide) (by decide) rfl (Nat.le_of_ble_eq_true rfl) (Nat.le_of_ble_eq_true rfl) (Nat.le_of_ble_eq_true rfl) (Nat.le_of_ble_eq_true rfl) (jX9_needNode hR (fun c7 => ?_) (fun c7 => hx1 (by simp [a_lossWithout, c2, c7])))
  obtain ⟨k, hk, rfl⟩ := (zin_iff (by omega)).mp c7
  refine zj_aload0 (n := 11) rfl dX9_lossWithout_10 ?_
  refine zj_getr (n := 14) (q := 105) rfl dX9_lossWithout_11 zf_X9_40 rfl (by decide) (by decide) rfl ?_
  refine zj_getr (n := 17) (q := 106) rfl dX9_lossWithout_14 zf_X9_179 rfl (by decide) (by decide) rfl ?_
  refine zj_aload0 (n := 18) rfl dX9_lossWithout_17 ?_
  refine zj_getr (n := 21) (q := 0) rfl dX9_lossWithout_18 zf_X9_33 rfl (by decide) (by decide) rfl ?_
  refine zj_iload1 (n := 22) rfl dX9_lossWithout_21 ?_
  refine zj_iconstN_1 (n := 23) rfl dX9_lossWithout_22 ?_
  refine zj_iload2 (n := 24) rfl dX9_lossWithout_23 ?_
  refine zj_ishlN1 (n := 25) rfl dX9_lossWithout_24 (by omega) ?_
  refine zj_callV3 (n := 28) (a' := 0) (b' := 0) rfl dX9_lossWithout_25 zm_X9_183 (by decide) (by decide) rfl (Nat.le_of_ble_eq_true rfl) (Nat.le_of_ble_eq_true rfl) (Nat.le_of_ble_eq_true rfl) (Nat.le_of_ble_eq_true rfl) (jX4_lossOf (Or.inl rfl) hR hW hn (Nat.pow_lt_pow_right (by decide) (by omega)) ?_)
  intro L hL
  refine zj_ireturn dX9_lossWithout_28 rfl rfl ?_
  have h := h (by simp only [a_lossWithout, c2, c7, if_true, Bool.and_true, Bool.true_and]) _ ((hC.ofL hL))
  simp only [a_lossWithout, c2, c7, xn_at (show n < 2 ^ 31 by omega), xn_at (show k < 2 ^ 31 by omega), if_true, Bool.and_true, Bool.true_and] at h
  exact h
