/-! THE MODEL: names found and made -/
def kbase (kd r : Nat) : Nat := if kd = 0 then 10 + 12 * r + 6 else if kd = 1 then 202 + 11 * r + 5 else 268 + 23 * r + 17
theorem zNmS.at {v : zV} (h : zNmS v) {kd r : Nat} (hk : kd ≤ 2) (hr : r < v (6 + kd)) : zNam v (kbase kd r) := by
  unfold kbase
  rcases (show kd = 0 ∨ kd = 1 ∨ kd = 2 by omega) with rfl | rfl | rfl
  · exact h.1 r hr
  · exact h.2.1 r hr
  · exact h.2.2 r hr
theorem zNam.lt {v : zV} {b k : Nat} (h : zNam v b) (hk : k < 6) : v (b + k) < 2 ^ 31 := by
  obtain ⟨L, h1, h6, hL, h0⟩ := h
  by_cases q : k < L
  · have := hL k q; omega
  · rw [h0 k (by omega) hk]; decide
/-- is the name between two places one of this kind -/
def kfind (v : zV) (kd : Nat) (B : Nat → Nat) (f t : Nat) : Option Nat := zfo (v (6 + kd)) (fun r => decide (vname v (kbase kd r) = vnm B f t))
theorem kfind_lt {v : zV} {kd m : Nat} {B : Nat → Nat} {f t : Nat} (hW : zWF v) (hk : kd ≤ 2) (h : kfind v kd B f t = some m) : m < 16 := by
  have h1 := zfo_lt h
  have h6 := hW.nN
  have h7 := hW.tN
  have h8 := hW.gN
  rcases (show kd = 0 ∨ kd = 1 ∨ kd = 2 by omega) with rfl | rfl | rfl
  · have : v (6 + 0) = v 6 := rfl
    omega
  · have : v (6 + 1) = v 7 := rfl
    omega
  · have : v (6 + 2) = v 8 := rfl
    omega
theorem zPm.cg {M M1 : zM} {n : Nat} {B : Nat → Nat} {s : zS} (h : zPm M n B s) (e : M1.1 118 = M.1 118) (e1 : M1.1 129 = M.1 129) : zPm M1 n B s := by
  obtain ⟨⟨a1, a2, a3⟩, h2, h3, h4, h5, e9, h6, ⟨b1, b2, b3, b4, b5⟩, h8⟩ := h
  exact ⟨⟨a1, by rw [e]; exact a2, a3.cg e1⟩, by rw [e]; exact h2, h3, fun q => by rw [e]; exact h4 q, fun q => by rw [e]; exact h5 q, e9, h6, ⟨by rw [e]; exact b1, by rw [e]; exact b2, by rw [e]; exact b3, fun q => by rw [e]; exact b4 q, fun q => by rw [e]; exact b5 q⟩, h8⟩
def zHf (M M' : zM) : Prop := (∀ a, a ≠ 118 → a ≠ 120 → M'.1 a = M.1 a) ∧ M'.2 = M.2 ∧ ∀ j, zG5 j = false → M'.1 118 j = M.1 118 j
theorem zHf.rf {M : zM} : zHf M M := ⟨fun _ _ _ => rfl, rfl, fun _ _ => rfl⟩
theorem zHf.tr {M M1 M2 : zM} (h : zHf M M1) (h2 : zHf M1 M2) : zHf M M2 := ⟨fun a h3 h4 => (h2.1 a h3 h4).trans (h.1 a h3 h4), h2.2.1.trans h.2.1, fun j hj => (h2.2.2 j hj).trans (h.2.2 j hj)⟩
theorem zHf.of {M M1 : zM} (h : zGf zG5 M M1) : zHf M M1 := ⟨fun a h1 _ => h.1 a h1, h.2.1, h.2.2⟩
theorem zHf.of2 {M M1 : zM} (h : zGf zG2 M M1) : zHf M M1 := zHf.of (zG25 h)
theorem zHf.put {M M1 : zM} {j : Nat} {x : Int32} (h : zHf M M1) : zHf M (zU M1.1 120 j x, M1.2) := h.tr ⟨fun a _ h2 => zU_off h2, rfl, fun i _ => by show zU M1.1 120 j x 118 i = _; rw [zU_off (by decide)]⟩
theorem zRA.gf {S : Nat → Bool} {M M1 : zM} {v : zV} (h : zRA M 120 v) (hF : zGf S M M1) : zRA M1 120 v := ⟨by rw [hF.2.1]; exact h.1, h.2.1, fun j hj => by rw [hF.1 120 (by decide)]; exact h.2.2 j hj⟩
theorem zRA.is {M : zM} {w : Nat} {v v' : zV} (h : zRA M w v) (e : v = v') : zRA M w v' := e ▸ h
theorem sErr_id {B : Nat → Nat} {n k : Nat} {b : Bool} {s : zS} (hk : 0 < k) (h : (sErr k B n b s).1 = 0) : sErr k B n b s = s := sErr_eq ((sErr_ok hk).mp h).2
def vletk (v : zV) (a : Nat) (B : Nat → Nat) (f t k : Nat) : zV := fun j => if a ≤ j ∧ j < a + k then (if j - a < t - f then zsn (B (f + (j - a))) else 0) else v j
theorem vletk_0 {v : zV} {a : Nat} {B : Nat → Nat} {f t : Nat} : vletk v a B f t 0 = v := by
  funext j
  unfold vletk
  rw [if_neg (by omega)]
theorem vletk_6 {v : zV} {a : Nat} {B : Nat → Nat} {f t : Nat} : vletk v a B f t 6 = vlet v a B f t := rfl
theorem vletk_s {v : zV} {a : Nat} {B : Nat → Nat} {f t k : Nat} : vset (vletk v a B f t k) (a + k) (if k < t - f then zsn (B (f + k)) else 0) = vletk v a B f t (k + 1) := by
  funext j
  show (if j = a + k then (if k < t - f then zsn (B (f + k)) else 0) else if a ≤ j ∧ j < a + k then (if j - a < t - f then zsn (B (f + (j - a))) else 0) else v j) = if a ≤ j ∧ j < a + (k + 1) then (if j - a < t - f then zsn (B (f + (j - a))) else 0) else v j
  by_cases q : j = a + k
  · subst q
    rw [if_pos rfl, if_pos (show a ≤ a + k ∧ a + k < a + (k + 1) by omega), Nat.add_sub_cancel_left]
  · rw [if_neg q]
    by_cases q2 : a ≤ j ∧ j < a + k
    · rw [if_pos q2, if_pos (show a ≤ j ∧ j < a + (k + 1) by omega)]
    · rw [if_neg q2, if_neg (show ¬ (a ≤ j ∧ j < a + (k + 1)) by omega)]
theorem jX10_kindNamed {w n f t kd : Nat} {B : Nat → Nat} {v : zV} {Q : Option Value → zM → Prop} {X : String → zM → Prop} {M : zM} (hA : zRA M w v) (hW : zWF v) (hN : zNmS v) (hk : kd ≤ 2) (hB : zBf M 129 n B) (hn : n ≤ 1400) (h20 : M.1 118 20 = nI f) (h19 : M.1 118 19 = nI t) (hft : f ≤ t) (ht : t ≤ n) (hl : ∀ i, i < t - f → zLetter (B (f + i)) = true) (h : Q (some (.int (zo (kfind v kd B f t)))) M) : zJ yX10_kindNamed cX10_kindNamed 2 (some .int) rX10_kindNamed Q X rX10_kindNamed.cells rX10_kindNamed.slots 0 (zEnt 2 [.ref 118, .int (nI kd)]) [] M := by
  have h6 := hW.nN
  have h7 := hW.tN
  have h8 := hW.gN
  show zJ yX10_kindNamed cX10_kindNamed 2 (some .int) rX10_kindNamed Q X 0 0 0 [some (.ref 118), some (.int (nI kd))] [] M
  refine zj_iload1 (n := 1) rfl dX10_kindNamed_0 ?_
  refine zj_ifN_ne (n := 4) (tgt := 22) rfl dX10_kindNamed_1 (by decide) (by omega) (fun c1 => ?_) (fun c1 => ?_)
  · refine zj_iload1 (n := 23) rfl dX10_kindNamed_22 ?_
    refine zj_iconstN_1 (n := 24) rfl dX10_kindNamed_23 ?_
    refine zj_icmpN_ne (n := 27) (tgt := 47) rfl dX10_kindNamed_24 (by decide) (by omega) (by omega) (fun c24 => ?_) (fun c24 => ?_)
    · refine zj_aload0 (n := 48) rfl dX10_kindNamed_47 ?_
      refine zj_sipushN (v := 268) (n := 51) rfl dX10_kindNamed_48 (by decide) ?_
      refine zj_bipushN (v := 23) (n := 53) rfl dX10_kindNamed_51 (by decide) ?_
      refine zj_bipushN (v := 17) (n := 55) rfl dX10_kindNamed_53 (by decide) ?_
      refine zj_aload0 (n := 56) rfl dX10_kindNamed_55 ?_
      refine zj_getr (n := 59) (q := w) rfl dX10_kindNamed_56 zf_X10_24 rfl (by decide) (by decide) hA.now ?_
      refine zj_bipushN (v := 8) (n := 61) rfl dX10_kindNamed_59 (by decide) ?_
      refine zj_ialoadN (e := v 8) (n := 62) rfl dX10_kindNamed_61 hA.2.1.lt hA.2.1.ty (by rw [hA.2.1.len]; decide) (hA.2.2 8 (by decide)) ?_
      refine zj_callV4 (n := 65) (a' := 0) (b' := 0) rfl dX10_kindNamed_62 zm_X10_333 (by decide) (by decide) rfl (Nat.le_of_ble_eq_true rfl) (Nat.le_of_ble_eq_true rfl) (Nat.le_of_ble_eq_true rfl) (Nat.le_of_ble_eq_true rfl) (jX10_named hA hB hn h20 h19 hft ht hl (fun r hr => by have := hr; omega) (fun r hr k hk => zNam.lt (hN.at (kd := 2) (by decide) hr) hk) (by omega) (by omega) (by decide) ?_)
      refine zj_ireturn dX10_kindNamed_65 rfl rfl ?_
      have ek : kd = 2 := by omega
      subst ek
      exact zQi h (congrArg zo (zfo_congr (fun r hr => (samB_name (hN.at (by decide) hr) hl).symm)))
    · refine zj_aload0 (n := 28) rfl dX10_kindNamed_27 ?_
      refine zj_sipushN (v := 202) (n := 31) rfl dX10_kindNamed_28 (by decide) ?_
      refine zj_bipushN (v := 11) (n := 33) rfl dX10_kindNamed_31 (by decide) ?_
      refine zj_iconstN_5 (n := 34) rfl dX10_kindNamed_33 ?_
      refine zj_aload0 (n := 35) rfl dX10_kindNamed_34 ?_
      refine zj_getr (n := 38) (q := w) rfl dX10_kindNamed_35 zf_X10_24 rfl (by decide) (by decide) hA.now ?_
      refine zj_bipushN (v := 7) (n := 40) rfl dX10_kindNamed_38 (by decide) ?_
      refine zj_ialoadN (e := v 7) (n := 41) rfl dX10_kindNamed_40 hA.2.1.lt hA.2.1.ty (by rw [hA.2.1.len]; decide) (hA.2.2 7 (by decide)) ?_
      refine zj_callV4 (n := 44) (a' := 0) (b' := 0) rfl dX10_kindNamed_41 zm_X10_333 (by decide) (by decide) rfl (Nat.le_of_ble_eq_true rfl) (Nat.le_of_ble_eq_true rfl) (Nat.le_of_ble_eq_true rfl) (Nat.le_of_ble_eq_true rfl) (jX10_named hA hB hn h20 h19 hft ht hl (fun r hr => by have := hr; omega) (fun r hr k hk => zNam.lt (hN.at (kd := 1) (by decide) hr) hk) (by omega) (by omega) (by decide) ?_)
      refine zj_goto (tgt := 65) dX10_kindNamed_44 (by decide) ?_
      refine zj_ireturn dX10_kindNamed_65 rfl rfl ?_
      have ek : kd = 1 := by omega
      subst ek
      exact zQi h (congrArg zo (zfo_congr (fun r hr => (samB_name (hN.at (by decide) hr) hl).symm)))
  · refine zj_aload0 (n := 5) rfl dX10_kindNamed_4 ?_
    refine zj_bipushN (v := 10) (n := 7) rfl dX10_kindNamed_5 (by decide) ?_
    refine zj_bipushN (v := 12) (n := 9) rfl dX10_kindNamed_7 (by decide) ?_
    refine zj_bipushN (v := 6) (n := 11) rfl dX10_kindNamed_9 (by decide) ?_
    refine zj_aload0 (n := 12) rfl dX10_kindNamed_11 ?_
    refine zj_getr (n := 15) (q := w) rfl dX10_kindNamed_12 zf_X10_24 rfl (by decide) (by decide) hA.now ?_
    refine zj_bipushN (v := 6) (n := 17) rfl dX10_kindNamed_15 (by decide) ?_
    refine zj_ialoadN (e := v 6) (n := 18) rfl dX10_kindNamed_17 hA.2.1.lt hA.2.1.ty (by rw [hA.2.1.len]; decide) (hA.2.2 6 (by decide)) ?_
    refine zj_callV4 (n := 21) (a' := 0) (b' := 0) rfl dX10_kindNamed_18 zm_X10_333 (by decide) (by decide) rfl (Nat.le_of_ble_eq_true rfl) (Nat.le_of_ble_eq_true rfl) (Nat.le_of_ble_eq_true rfl) (Nat.le_of_ble_eq_true rfl) (jX10_named hA hB hn h20 h19 hft ht hl (fun r hr => by have := hr; omega) (fun r hr k hk => zNam.lt (hN.at (kd := 0) (by decide) hr) hk) (by omega) (by omega) (by decide) ?_)
    refine zj_ireturn dX10_kindNamed_21 rfl rfl ?_
    have ek : kd = 0 := by omega
    subst ek
    exact zQi h (congrArg zo (zfo_congr (fun r hr => (samB_name (hN.at (by decide) hr) hl).symm)))
theorem jX10_isTakenPosition {w p : Nat} {v : zV} {Q : Option Value → zM → Prop} {X : String → zM → Prop} {M : zM} (hA : zRA M w v) (hW : zWF v) (hp : p < 2 ^ 31) (h : Q (some (.int (zb (zAny (v 6) (fun i => v (10 + 12 * i + 0) == p))))) M) : zJ yX10_isTakenPosition cX10_isTakenPosition 4 (some .boolean) rX10_isTakenPosition Q X rX10_isTakenPosition.cells rX10_isTakenPosition.slots 0 (zEnt 4 [.ref 118, .int (nI p)]) [] M := by
  have h6 := hW.nN
  show zJ yX10_isTakenPosition cX10_isTakenPosition 4 (some .boolean) rX10_isTakenPosition Q X 0 0 0 [some (.ref 118), some (.int (nI p)), none, none] [] M
  refine zj_iconstN_0 (n := 1) rfl dX10_isTakenPosition_0 ?_
  refine zj_istore2 (n := 2) rfl dX10_isTakenPosition_1 rfl (Nat.le_of_ble_eq_true rfl) ?_
  refine zj_iconstN_0 (n := 3) rfl dX10_isTakenPosition_2 ?_
  refine zj_istore3 (n := 4) rfl dX10_isTakenPosition_3 rfl (Nat.le_of_ble_eq_true rfl) ?_
  refine zFor_rule (P := fun i (_ : Unit) => zJ yX10_isTakenPosition cX10_isTakenPosition 4 (some .boolean) rX10_isTakenPosition Q X 0 0 4 [some (.ref 118), some (.int (nI p)), some (.int (zb (zAny i (fun i => v (10 + 12 * i + 0) == p)))), some (.int (nI i))] [] M) (n := v 6) (f := fun _ s => s) (s0 := ()) ?_ ?_
  · intro i _ hi9 hk
    refine zj_iload3 (n := 5) rfl dX10_isTakenPosition_4 ?_
    refine zj_aload0 (n := 6) rfl dX10_isTakenPosition_5 ?_
    refine zj_getr (n := 9) (q := w) rfl dX10_isTakenPosition_6 zf_X10_24 rfl (by decide) (by decide) hA.now ?_
    refine zj_bipushN (v := 6) (n := 11) rfl dX10_isTakenPosition_9 (by decide) ?_
    refine zj_ialoadN (e := v 6) (n := 12) rfl dX10_isTakenPosition_11 hA.2.1.lt hA.2.1.ty (by rw [hA.2.1.len]; decide) (hA.2.2 6 (by decide)) ?_
    refine zj_icmpN_ge (n := 15) (tgt := 41) rfl dX10_isTakenPosition_12 (by decide) (by omega) (by omega) (fun c12 => by omega) (fun c12 => ?_)
    refine zj_iload2 (n := 16) rfl dX10_isTakenPosition_15 ?_
    refine zj_ifB_ne (n := 19) (tgt := 29) rfl dX10_isTakenPosition_16 (by decide) (fun c16 => ?_) (fun c16 => ?_)
    · refine zj_iconstN_1 (n := 30) rfl dX10_isTakenPosition_29 ?_
      refine zj_goto (tgt := 34) dX10_isTakenPosition_30 (by decide) ?_
      refine zj_istore2 (n := 35) rfl dX10_isTakenPosition_34 rfl (Nat.le_of_ble_eq_true rfl) ?_
      refine zj_iincN3 (n := 38) rfl dX10_isTakenPosition_35 rfl (Nat.le_of_ble_eq_true rfl) ?_
      refine zj_goto (tgt := 4) dX10_isTakenPosition_38 (by decide) ?_
      rw [show nI 1 = zb (zAny (i + 1) (fun i => v (10 + 12 * i + 0) == p)) from by rw [show zAny (i + 1) (fun i => v (10 + 12 * i + 0) == p) = (zAny i (fun i => v (10 + 12 * i + 0) == p) || v (10 + 12 * i + 0) == p) from rfl, c16, Bool.true_or] <;> rfl]
      exact hk
    · refine zj_aload0 (n := 20) rfl dX10_isTakenPosition_19 ?_
      refine zj_iload3 (n := 21) rfl dX10_isTakenPosition_20 ?_
      refine zj_iconstN_0 (n := 22) rfl dX10_isTakenPosition_21 ?_
      refine zj_callV2 (n := 25) (a' := 0) (b' := 0) rfl dX10_isTakenPosition_22 zm_X10_77 (by decide) (by decide) rfl (Nat.le_of_ble_eq_true rfl) (Nat.le_of_ble_eq_true rfl) (Nat.le_of_ble_eq_true rfl) (Nat.le_of_ble_eq_true rfl) (jX10_nodeValue (c := 0) hA (by omega) ?_)
      refine zj_iload1 (n := 26) rfl dX10_isTakenPosition_25 ?_
      have hn0 : v (10 + 12 * i + 0) ≤ 9999 := (hW.node hi9).1
      refine zj_icmpN_ne (n := 29) (tgt := 33) rfl dX10_isTakenPosition_26 (by decide) (by omega) (by omega) (fun c26 => ?_) (fun c26 => ?_)
      · refine zj_iconstN_0 (n := 34) rfl dX10_isTakenPosition_33 ?_
        refine zj_istore2 (n := 35) rfl dX10_isTakenPosition_34 rfl (Nat.le_of_ble_eq_true rfl) ?_
        refine zj_iincN3 (n := 38) rfl dX10_isTakenPosition_35 rfl (Nat.le_of_ble_eq_true rfl) ?_
        refine zj_goto (tgt := 4) dX10_isTakenPosition_38 (by decide) ?_
        rw [show nI 0 = zb (zAny (i + 1) (fun i => v (10 + 12 * i + 0) == p)) from by rw [show zAny (i + 1) (fun i => v (10 + 12 * i + 0) == p) = (zAny i (fun i => v (10 + 12 * i + 0) == p) || v (10 + 12 * i + 0) == p) from rfl, c16, beq_false_of_ne c26, Bool.or_false] <;> rfl]
        exact hk
      · refine zj_iconstN_1 (n := 30) rfl dX10_isTakenPosition_29 ?_
        refine zj_goto (tgt := 34) dX10_isTakenPosition_30 (by decide) ?_
        refine zj_istore2 (n := 35) rfl dX10_isTakenPosition_34 rfl (Nat.le_of_ble_eq_true rfl) ?_
        refine zj_iincN3 (n := 38) rfl dX10_isTakenPosition_35 rfl (Nat.le_of_ble_eq_true rfl) ?_
        refine zj_goto (tgt := 4) dX10_isTakenPosition_38 (by decide) ?_
        rw [show nI 1 = zb (zAny (i + 1) (fun i => v (10 + 12 * i + 0) == p)) from by rw [show zAny (i + 1) (fun i => v (10 + 12 * i + 0) == p) = (zAny i (fun i => v (10 + 12 * i + 0) == p) || v (10 + 12 * i + 0) == p) from rfl, c26, beq_self_eq_true, Bool.or_true] <;> rfl]
        exact hk
  · skip
    refine zj_iload3 (n := 5) rfl dX10_isTakenPosition_4 ?_
    refine zj_aload0 (n := 6) rfl dX10_isTakenPosition_5 ?_
    refine zj_getr (n := 9) (q := w) rfl dX10_isTakenPosition_6 zf_X10_24 rfl (by decide) (by decide) hA.now ?_
    refine zj_bipushN (v := 6) (n := 11) rfl dX10_isTakenPosition_9 (by decide) ?_
    refine zj_ialoadN (e := v 6) (n := 12) rfl dX10_isTakenPosition_11 hA.2.1.lt hA.2.1.ty (by rw [hA.2.1.len]; decide) (hA.2.2 6 (by decide)) ?_
    refine zj_icmpN_ge (n := 15) (tgt := 41) rfl dX10_isTakenPosition_12 (by decide) (by omega) (by omega) (fun c12 => ?_) (fun c12 => by omega)
    refine zj_iload2 (n := 42) rfl dX10_isTakenPosition_41 ?_
    exact zj_ireturn dX10_isTakenPosition_42 rfl (zb_nar _) h
theorem jX10_newName {n kd a : Nat} {B : Nat → Nat} {s : zS} {v : zV} {Q : Option Value → zM → Prop} {X : String → zM → Prop} {M : zM} (hP : zPm M n B s) (hA : zRA M 120 v) (hW : zWF v) (hN : zNmS v) (hk : kd ≤ 2) (ha : a + 6 ≤ 698) (h : ∀ M' e, ((sErr 3 B n (kfind v kd B (tS B n s.2.2) (tE B n s.2.2)).isSome (sErr 1 B n (sBadN B n s.2.2) s)).1 = 0 → e = s.2.2) → zHf M M' → zPm M' n B (sNext B n (sErr 3 B n (kfind v kd B (tS B n s.2.2) (tE B n s.2.2)).isSome (sErr 1 B n (sBadN B n s.2.2) s))) → zRA M' 120 (vlet v a B (tS B n e) (tE B n e)) → Q none M') : zJ yX10_newName cX10_newName 4 none rX10_newName Q X rX10_newName.cells rX10_newName.slots 0 (zEnt 4 [.ref 118, .int (nI kd), .int (nI a)]) [] M := by
  show zJ yX10_newName cX10_newName 4 none rX10_newName Q X 0 0 0 [some (.ref 118), some (.int (nI kd)), some (.int (nI a)), none] [] M
  refine zj_aload0 (n := 1) rfl dX10_newName_0 ?_
  refine zj_callV0 (n := 4) (a' := 0) (b' := 0) rfl dX10_newName_1 zm_X10_340 (by decide) (by decide) rfl (Nat.le_of_ble_eq_true rfl) (Nat.le_of_ble_eq_true rfl) (Nat.le_of_ble_eq_true rfl) (Nat.le_of_ble_eq_true rfl) (jX10_checkName hP ?_)
  intro M1 hF1 hP1
  obtain ⟨hT1, -, -, -, -, e1, hen1, hK1, he1⟩ := id hP1
  have hts1 := tS_le (B := B) hen1
  have hte1 := tE_le (B := B) hen1
  refine zj_aload0 (n := 5) rfl dX10_newName_4 ?_
  refine zj_callV0 (n := 8) (a' := 0) (b' := 0) rfl dX10_newName_5 zm_X10_226 (by decide) (by decide) rfl (Nat.le_of_ble_eq_true rfl) (Nat.le_of_ble_eq_true rfl) (Nat.le_of_ble_eq_true rfl) (Nat.le_of_ble_eq_true rfl) (jX10_good hP1 ?_)
  refine zj_ifB_eq (n := 11) (tgt := 25) rfl dX10_newName_8 (by decide) (fun c8 => ?_) (fun c8 => ?_)
  · refine zj_gen (P := fun M3 => zGf zG2 M M3 ∧ zPm M3 n B (sErr 3 B n (kfind v kd B (tS B n s.2.2) (tE B n s.2.2)).isSome (sErr 1 B n (sBadN B n s.2.2) s))) ⟨hF1, by rw [sErr_no (of_decide_eq_false c8)]; exact hP1⟩ ?_
    intro M3 h3
    obtain ⟨hF3, hP3⟩ := h3
    have hA3 := hA.gf hF3
    obtain ⟨hT3, -, -, -, -, e3, hen3, hK3, he3⟩ := id hP3
    have hts3 := tS_le (B := B) hen3
    have hte3 := tE_le (B := B) hen3
    have hn := hP.n
    refine zj_iconstN_0 (n := 26) rfl dX10_newName_25 ?_
    refine zj_istore3 (n := 27) rfl dX10_newName_26 rfl (Nat.le_of_ble_eq_true rfl) ?_
    refine zFor_rule (P := fun k (_ : Unit) => ∀ M4, (∀ a9, a9 ≠ 120 → M4.1 a9 = M3.1 a9) → M4.2 = M3.2 → zRA M4 120 (vletk v a B (tS B n e3) (tE B n e3) k) → zJ yX10_newName cX10_newName 4 none rX10_newName Q X 0 0 27 [some (.ref 118), some (.int (nI kd)), some (.int (nI a)), some (.int (nI k))] [] M4) (n := 6) (f := fun _ s => s) (s0 := ()) ?_ ?_ M3 (fun _ _ => rfl) rfl (by rw [vletk_0]; exact hA3)
    · intro k _ hk9 hkk M4 hF4 hs4 hA4
      refine zj_iload3 (n := 28) rfl dX10_newName_27 ?_
      refine zj_bipushN (v := 6) (n := 30) rfl dX10_newName_28 (by decide) ?_
      refine zj_icmpN_ge (n := 33) (tgt := 52) rfl dX10_newName_30 (by decide) (by omega) (by omega) (fun c30 => by omega) (fun c30 => ?_)
      refine zj_aload0 (n := 34) rfl dX10_newName_33 ?_
      refine zj_getr (n := 37) (q := 120) rfl dX10_newName_34 zf_X10_24 rfl (by decide) (by decide) hA4.now ?_
      refine zj_iload2 (n := 38) rfl dX10_newName_37 ?_
      refine zj_iload3 (n := 39) rfl dX10_newName_38 ?_
      refine zj_iaddN (n := 40) rfl dX10_newName_39 ?_
      refine zj_aload0 (n := 41) rfl dX10_newName_40 ?_
      refine zj_iload3 (n := 42) rfl dX10_newName_41 ?_
      refine zj_callV1 (n := 45) (a' := 0) (b' := 0) rfl dX10_newName_42 zm_X10_330 (by decide) (by decide) rfl (Nat.le_of_ble_eq_true rfl) (Nat.le_of_ble_eq_true rfl) (Nat.le_of_ble_eq_true rfl) (Nat.le_of_ble_eq_true rfl) (jX10_letter (f := tS B n e3) (t := tE B n e3) (hT3.2.2.cg (hF4 129 (by decide))) hT3.1 (by rw [hF4 118 (by decide)]; exact hK3.2.1) (by rw [hF4 118 (by decide)]; exact hK3.2.2.1) (by omega) (by omega) (k := k) (by omega) ?_)
      refine zj_iastoreN (n := 46) rfl dX10_newName_45 (by decide) rfl (by rw [show zLen 120 = 698 from rfl]; omega) ?_
      refine zj_iincN3 (n := 49) rfl dX10_newName_46 rfl (Nat.le_of_ble_eq_true rfl) ?_
      refine zj_goto (tgt := 27) dX10_newName_49 (by decide) ?_
      exact hkk _ (fun a9 h9 => (zU_off h9).trans (hF4 a9 h9)) hs4 (hA4.set.is vletk_s)
    · intro M4 hF4 hs4 hA4
      refine zj_iload3 (n := 28) rfl dX10_newName_27 ?_
      refine zj_bipushN (v := 6) (n := 30) rfl dX10_newName_28 (by decide) ?_
      refine zj_icmpN_ge (n := 33) (tgt := 52) rfl dX10_newName_30 (by decide) (by omega) (by omega) (fun c30 => ?_) (fun c30 => by omega)
      refine zj_aload0 (n := 53) rfl dX10_newName_52 ?_
      refine zj_callV0 (n := 56) (a' := 0) (b' := 0) rfl dX10_newName_53 zm_X10_320 (by decide) (by decide) rfl (Nat.le_of_ble_eq_true rfl) (Nat.le_of_ble_eq_true rfl) (Nat.le_of_ble_eq_true rfl) (Nat.le_of_ble_eq_true rfl) (jX10_goOn (hP3.cg (hF4 118 (by decide)) (hF4 129 (by decide))) ?_)
      intro M5 hF5 hP5
      exact zj_return dX10_newName_56 rfl (h M5 e3 (fun q => by have := he3 q; rw [sErr_id (by decide) q, sErr_id (by decide) ((sErr_ok (by decide)).mp q).1] at this; exact this) (((zHf.of2 hF3).tr ⟨fun a9 _ h9 => hF4 a9 h9, hs4, fun j _ => by rw [hF4 118 (by decide)]⟩).tr (zHf.of hF5)) hP5 ((hA4.is vletk_6).gf hF5))
  · have hs1 := of_decide_eq_true c8
    have hsb := (sErr_ok (by decide)).mp hs1
    have eS1 : sErr 1 B n (sBadN B n s.2.2) s = s := sErr_eq hsb.2
    have ee1 : e1 = s.2.2 := by have := he1 hs1; rw [eS1] at this; exact this
    have hkd : tK B n s.2.2 = 1 := by have q := hsb.2; unfold sBadN at q; simp only [Bool.or_eq_false_iff, Bool.not_eq_false', beq_iff_eq] at q; exact q.1.1
    subst ee1
    refine zj_aload0 (n := 12) rfl dX10_newName_11 ?_
    refine zj_iload1 (n := 13) rfl dX10_newName_12 ?_
    refine zj_callV1 (n := 16) (a' := 0) (b' := 0) rfl dX10_newName_13 zm_X10_343 (by decide) (by decide) rfl (Nat.le_of_ble_eq_true rfl) (Nat.le_of_ble_eq_true rfl) (Nat.le_of_ble_eq_true rfl) (Nat.le_of_ble_eq_true rfl) (jX10_kindNamed (hA.gf hF1) hW hN hk hT1.2.2 hT1.1 hK1.2.1 hK1.2.2.1 (by omega) (by omega) (fun i hi => tLet hkd (by omega)) ?_)
    refine zj_iconst_m1 (n := 17) rfl dX10_newName_16 ?_
    refine zj_icmpO_eq (n := 20) (tgt := 25) rfl dX10_newName_17 (by decide) (fun m hm => by have := kfind_lt hW hk hm; omega) (fun c17 => ?_) (fun m17 c17 => ?_)
    · refine zj_gen (P := fun M3 => zGf zG2 M M3 ∧ zPm M3 n B (sErr 3 B n (kfind v kd B (tS B n s.2.2) (tE B n s.2.2)).isSome (sErr 1 B n (sBadN B n s.2.2) s))) ⟨hF1, by rw [c17]; exact hP1⟩ ?_
      intro M3 h3
      obtain ⟨hF3, hP3⟩ := h3
      have hA3 := hA.gf hF3
      obtain ⟨hT3, -, -, -, -, e3, hen3, hK3, he3⟩ := id hP3
      have hts3 := tS_le (B := B) hen3
      have hte3 := tE_le (B := B) hen3
      have hn := hP.n
      refine zj_iconstN_0 (n := 26) rfl dX10_newName_25 ?_
      refine zj_istore3 (n := 27) rfl dX10_newName_26 rfl (Nat.le_of_ble_eq_true rfl) ?_
      refine zFor_rule (P := fun k (_ : Unit) => ∀ M4, (∀ a9, a9 ≠ 120 → M4.1 a9 = M3.1 a9) → M4.2 = M3.2 → zRA M4 120 (vletk v a B (tS B n e3) (tE B n e3) k) → zJ yX10_newName cX10_newName 4 none rX10_newName Q X 0 0 27 [some (.ref 118), some (.int (nI kd)), some (.int (nI a)), some (.int (nI k))] [] M4) (n := 6) (f := fun _ s => s) (s0 := ()) ?_ ?_ M3 (fun _ _ => rfl) rfl (by rw [vletk_0]; exact hA3)
      · intro k _ hk9 hkk M4 hF4 hs4 hA4
        refine zj_iload3 (n := 28) rfl dX10_newName_27 ?_
        refine zj_bipushN (v := 6) (n := 30) rfl dX10_newName_28 (by decide) ?_
        refine zj_icmpN_ge (n := 33) (tgt := 52) rfl dX10_newName_30 (by decide) (by omega) (by omega) (fun c30 => by omega) (fun c30 => ?_)
        refine zj_aload0 (n := 34) rfl dX10_newName_33 ?_
        refine zj_getr (n := 37) (q := 120) rfl dX10_newName_34 zf_X10_24 rfl (by decide) (by decide) hA4.now ?_
        refine zj_iload2 (n := 38) rfl dX10_newName_37 ?_
        refine zj_iload3 (n := 39) rfl dX10_newName_38 ?_
        refine zj_iaddN (n := 40) rfl dX10_newName_39 ?_
        refine zj_aload0 (n := 41) rfl dX10_newName_40 ?_
        refine zj_iload3 (n := 42) rfl dX10_newName_41 ?_
        refine zj_callV1 (n := 45) (a' := 0) (b' := 0) rfl dX10_newName_42 zm_X10_330 (by decide) (by decide) rfl (Nat.le_of_ble_eq_true rfl) (Nat.le_of_ble_eq_true rfl) (Nat.le_of_ble_eq_true rfl) (Nat.le_of_ble_eq_true rfl) (jX10_letter (f := tS B n e3) (t := tE B n e3) (hT3.2.2.cg (hF4 129 (by decide))) hT3.1 (by rw [hF4 118 (by decide)]; exact hK3.2.1) (by rw [hF4 118 (by decide)]; exact hK3.2.2.1) (by omega) (by omega) (k := k) (by omega) ?_)
        refine zj_iastoreN (n := 46) rfl dX10_newName_45 (by decide) rfl (by rw [show zLen 120 = 698 from rfl]; omega) ?_
        refine zj_iincN3 (n := 49) rfl dX10_newName_46 rfl (Nat.le_of_ble_eq_true rfl) ?_
        refine zj_goto (tgt := 27) dX10_newName_49 (by decide) ?_
        exact hkk _ (fun a9 h9 => (zU_off h9).trans (hF4 a9 h9)) hs4 (hA4.set.is vletk_s)
      · intro M4 hF4 hs4 hA4
        refine zj_iload3 (n := 28) rfl dX10_newName_27 ?_
        refine zj_bipushN (v := 6) (n := 30) rfl dX10_newName_28 (by decide) ?_
        refine zj_icmpN_ge (n := 33) (tgt := 52) rfl dX10_newName_30 (by decide) (by omega) (by omega) (fun c30 => ?_) (fun c30 => by omega)
        refine zj_aload0 (n := 53) rfl dX10_newName_52 ?_
        refine zj_callV0 (n := 56) (a' := 0) (b' := 0) rfl dX10_newName_53 zm_X10_320 (by decide) (by decide) rfl (Nat.le_of_ble_eq_true rfl) (Nat.le_of_ble_eq_true rfl) (Nat.le_of_ble_eq_true rfl) (Nat.le_of_ble_eq_true rfl) (jX10_goOn (hP3.cg (hF4 118 (by decide)) (hF4 129 (by decide))) ?_)
        intro M5 hF5 hP5
        exact zj_return dX10_newName_56 rfl (h M5 e3 (fun q => by have := he3 q; rw [sErr_id (by decide) q, sErr_id (by decide) ((sErr_ok (by decide)).mp q).1] at this; exact this) (((zHf.of2 hF3).tr ⟨fun a9 _ h9 => hF4 a9 h9, hs4, fun j _ => by rw [hF4 118 (by decide)]⟩).tr (zHf.of hF5)) hP5 ((hA4.is vletk_6).gf hF5))
    · refine zj_aload0 (n := 21) rfl dX10_newName_20 ?_
      refine zj_iconstN_3 (n := 22) rfl dX10_newName_21 ?_
      refine zj_callV1 (n := 25) (a' := 0) (b' := 0) rfl dX10_newName_22 zm_X10_317 (by decide) (by decide) rfl (Nat.le_of_ble_eq_true rfl) (Nat.le_of_ble_eq_true rfl) (Nat.le_of_ble_eq_true rfl) (Nat.le_of_ble_eq_true rfl) (jX10_errs hP1 (by decide) ?_)
      intro M2 hF2 hP2
      refine zj_gen (P := fun M3 => zGf zG2 M M3 ∧ zPm M3 n B (sErr 3 B n (kfind v kd B (tS B n s.2.2) (tE B n s.2.2)).isSome (sErr 1 B n (sBadN B n s.2.2) s))) ⟨(hF1.tr hF2), by rw [c17]; exact hP2⟩ ?_
      intro M3 h3
      obtain ⟨hF3, hP3⟩ := h3
      have hA3 := hA.gf hF3
      obtain ⟨hT3, -, -, -, -, e3, hen3, hK3, he3⟩ := id hP3
      have hts3 := tS_le (B := B) hen3
      have hte3 := tE_le (B := B) hen3
      have hn := hP.n
      refine zj_iconstN_0 (n := 26) rfl dX10_newName_25 ?_
      refine zj_istore3 (n := 27) rfl dX10_newName_26 rfl (Nat.le_of_ble_eq_true rfl) ?_
      refine zFor_rule (P := fun k (_ : Unit) => ∀ M4, (∀ a9, a9 ≠ 120 → M4.1 a9 = M3.1 a9) → M4.2 = M3.2 → zRA M4 120 (vletk v a B (tS B n e3) (tE B n e3) k) → zJ yX10_newName cX10_newName 4 none rX10_newName Q X 0 0 27 [some (.ref 118), some (.int (nI kd)), some (.int (nI a)), some (.int (nI k))] [] M4) (n := 6) (f := fun _ s => s) (s0 := ()) ?_ ?_ M3 (fun _ _ => rfl) rfl (by rw [vletk_0]; exact hA3)
      · intro k _ hk9 hkk M4 hF4 hs4 hA4
        refine zj_iload3 (n := 28) rfl dX10_newName_27 ?_
        refine zj_bipushN (v := 6) (n := 30) rfl dX10_newName_28 (by decide) ?_
        refine zj_icmpN_ge (n := 33) (tgt := 52) rfl dX10_newName_30 (by decide) (by omega) (by omega) (fun c30 => by omega) (fun c30 => ?_)
        refine zj_aload0 (n := 34) rfl dX10_newName_33 ?_
        refine zj_getr (n := 37) (q := 120) rfl dX10_newName_34 zf_X10_24 rfl (by decide) (by decide) hA4.now ?_
        refine zj_iload2 (n := 38) rfl dX10_newName_37 ?_
        refine zj_iload3 (n := 39) rfl dX10_newName_38 ?_
        refine zj_iaddN (n := 40) rfl dX10_newName_39 ?_
        refine zj_aload0 (n := 41) rfl dX10_newName_40 ?_
        refine zj_iload3 (n := 42) rfl dX10_newName_41 ?_
        refine zj_callV1 (n := 45) (a' := 0) (b' := 0) rfl dX10_newName_42 zm_X10_330 (by decide) (by decide) rfl (Nat.le_of_ble_eq_true rfl) (Nat.le_of_ble_eq_true rfl) (Nat.le_of_ble_eq_true rfl) (Nat.le_of_ble_eq_true rfl) (jX10_letter (f := tS B n e3) (t := tE B n e3) (hT3.2.2.cg (hF4 129 (by decide))) hT3.1 (by rw [hF4 118 (by decide)]; exact hK3.2.1) (by rw [hF4 118 (by decide)]; exact hK3.2.2.1) (by omega) (by omega) (k := k) (by omega) ?_)
        refine zj_iastoreN (n := 46) rfl dX10_newName_45 (by decide) rfl (by rw [show zLen 120 = 698 from rfl]; omega) ?_
        refine zj_iincN3 (n := 49) rfl dX10_newName_46 rfl (Nat.le_of_ble_eq_true rfl) ?_
        refine zj_goto (tgt := 27) dX10_newName_49 (by decide) ?_
        exact hkk _ (fun a9 h9 => (zU_off h9).trans (hF4 a9 h9)) hs4 (hA4.set.is vletk_s)
      · intro M4 hF4 hs4 hA4
        refine zj_iload3 (n := 28) rfl dX10_newName_27 ?_
        refine zj_bipushN (v := 6) (n := 30) rfl dX10_newName_28 (by decide) ?_
        refine zj_icmpN_ge (n := 33) (tgt := 52) rfl dX10_newName_30 (by decide) (by omega) (by omega) (fun c30 => ?_) (fun c30 => by omega)
        refine zj_aload0 (n := 53) rfl dX10_newName_52 ?_
        refine zj_callV0 (n := 56) (a' := 0) (b' := 0) rfl dX10_newName_53 zm_X10_320 (by decide) (by decide) rfl (Nat.le_of_ble_eq_true rfl) (Nat.le_of_ble_eq_true rfl) (Nat.le_of_ble_eq_true rfl) (Nat.le_of_ble_eq_true rfl) (jX10_goOn (hP3.cg (hF4 118 (by decide)) (hF4 129 (by decide))) ?_)
        intro M5 hF5 hP5
        exact zj_return dX10_newName_56 rfl (h M5 e3 (fun q => by have := he3 q; rw [sErr_id (by decide) q, sErr_id (by decide) ((sErr_ok (by decide)).mp q).1] at this; exact this) (((zHf.of2 hF3).tr ⟨fun a9 _ h9 => hF4 a9 h9, hs4, fun j _ => by rw [hF4 118 (by decide)]⟩).tr (zHf.of hF5)) hP5 ((hA4.is vletk_6).gf hF5))
