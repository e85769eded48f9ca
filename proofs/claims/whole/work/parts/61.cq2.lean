/-! THE CLASS'S QUESTIONS, more -/
theorem vfrom_min {v : zV} {p : Nat} (hW : ∀ n, n < v 6 → v (10 + 12 * n + 0) ≤ 9999) (hp : p ≤ 10000) : zMin (v 6) (fun _ => true) (fun n => vway v n p) (vfrom v p) := by
  rcases Nat.eq_zero_or_pos (v 6) with q | q
  · have : vfrom v p = none := by unfold vfrom; rw [q]; rfl
    rw [this]
    exact fun m hm => by omega
  · obtain ⟨k, hk⟩ := vfrom_some (v := v) (p := p) q
    obtain ⟨s1, s2⟩ := vfrom_spec hk
    rw [hk]
    refine ⟨s1, rfl, fun m hm _ => ?_⟩
    show vway v k p ≤ vway v m p
    have wk := vway_if (hW k s1) hp
    have wm := vway_if (hW m hm) hp
    have ak := hW k s1
    have am := hW m hm
    rcases s2 with ⟨s2, s3⟩ | ⟨s2, s3⟩
    · have := s3 m hm
      split at wk <;> split at wm <;> omega
    · have := s2 m hm
      have := s3 m hm
      have := s2 k s1
      split at wk <;> split at wm <;> omega
theorem vbest_from {v : zV} {p : Nat} (hW : ∀ n, n < v 6 → v (10 + 12 * n + 0) ≤ 9999) (hd : ∀ n m, n < v 6 → m < v 6 → v (10 + 12 * n + 0) = v (10 + 12 * m + 0) → n = m) (hp : p ≤ 10000) : (vbest (fun _ => true) (fun n => vway v n p) (v 6)).1 = vfrom v p :=
  zMin_eq (fun a b ha hb e => vway_inj hW hd hp ha hb e) (vbest_min (v 6)).1 (vfrom_min hW hp)
theorem zmdam {v : zV} {n : Nat} (hn : n < v 8) (h8 : v 8 ≤ 10) : zMask (v 8) (fun g => vdam v 0 g) &&& 2 ^ n = 0 ↔ vdam v 0 n = false := by
  have hb := zMask_bit (n := v 8) (p := fun g => vdam v 0 g) (i := n)
  rw [decide_eq_true hn, Bool.true_and] at hb
  constructor
  · intro h
    have h2 : (zMask (v 8) (fun g => vdam v 0 g) &&& 2 ^ n).testBit n = false := by rw [h]; exact Nat.zero_testBit n
    rw [Nat.testBit_and, hb, Nat.testBit_two_pow_self, Bool.and_true] at h2
    exact h2
  · intro h
    apply Nat.eq_of_testBit_eq
    intro i
    rw [Nat.testBit_and, Nat.zero_testBit, Nat.testBit_two_pow]
    by_cases e : n = i
    · subst e; rw [hb, h]; rfl
    · simp [e]
theorem zmany {v : zV} : zMask (v 8) (fun g => vdam v 0 g) &&& (2 ^ v 8 - 1) = 0 ↔ vany v = false := by
  rw [Nat.and_two_pow_sub_one_eq_mod, Nat.mod_eq_of_lt (zMask_lt _ _), zMask_ne0]
  unfold vany
  constructor
  · intro h
    cases e : zAny (v 8) (fun g => vdam v 0 g) with
    | false => rfl
    | true =>
      obtain ⟨i, h1, h2⟩ := zAny_iff.mp e
      rw [h i h1] at h2; cases h2
  · intro h i hi
    cases e : vdam v 0 i with
    | false => rfl
    | true =>
      have := zAny_iff.mpr ⟨i, hi, e⟩
      rw [h] at this; cases this
theorem jX9_nodeFrom {v : zV} {x : Int32} {Q : Option Value → zM → Prop} {X : String → zM → Prop} {M : zM} (hC : zCl M v) (hW : zWF v) (hx1 : (a_nodeFrom v x).1 = 1 → X "java/lang/IllegalArgumentException" M) (h : (a_nodeFrom v x).1 = 0 → ∀ M', zQn M M' → Q (some (.int (a_nodeFrom v x).2)) M') : zJ yX9_nodeFrom cX9_nodeFrom 4 (some .int) rX9_nodeFrom Q X rX9_nodeFrom.cells rX9_nodeFrom.slots 0 (zEnt 4 [.ref 99, .int x]) [] M := by
  have hR := hC.1
  have h6 := hW.nN
  have h7 := hW.tN
  have h8 := hW.gN
  have h9 := hW.hN
  show zJ yX9_nodeFrom cX9_nodeFrom 4 (some .int) rX9_nodeFrom Q X 1 6 0 [some (.ref 99), some (.int x), none, none] [] M
  refine zj_iload1 (n := 1) rfl dX9_nodeFrom_0 ?_
  refine zj_if_lt (n := 4) (tgt := 15) rfl dX9_nodeFrom_1 (by decide) (fun c1 => ?_) (fun c1 => ?_)
  · refine zj_iconstN_0 (n := 16) rfl dX9_nodeFrom_15 ?_
    refine zj_callS1 (n := 19) (a' := 0) (b' := 0) rfl dX9_nodeFrom_16 zm_X9_72 (by decide) (Nat.le_of_ble_eq_true rfl) (Nat.le_of_ble_eq_true rfl) (Nat.le_of_ble_eq_true rfl) (Nat.le_of_ble_eq_true rfl) (jX9_needArgument (p := false) (fun q => by cases q) (fun _ => hx1 (by simp [a_nodeFrom, zin_f1 c1])))
  · refine zj_iload1 (n := 5) rfl dX9_nodeFrom_4 ?_
    refine zj_sipushN (v := 10000) (n := 8) rfl dX9_nodeFrom_5 (by decide) ?_
    refine zj_icmp_ge (n := 11) (tgt := 15) rfl dX9_nodeFrom_8 (by decide) (fun c8 => ?_) (fun c8 => ?_)
    · refine zj_iconstN_0 (n := 16) rfl dX9_nodeFrom_15 ?_
      refine zj_callS1 (n := 19) (a' := 0) (b' := 0) rfl dX9_nodeFrom_16 zm_X9_72 (by decide) (Nat.le_of_ble_eq_true rfl) (Nat.le_of_ble_eq_true rfl) (Nat.le_of_ble_eq_true rfl) (Nat.le_of_ble_eq_true rfl) (jX9_needArgument (p := false) (fun q => by cases q) (fun _ => hx1 (by simp [a_nodeFrom, zin_f2 (n := 10000) c8])))
    · refine zj_iconstN_1 (n := 12) rfl dX9_nodeFrom_11 ?_
      refine zj_goto (tgt := 16) dX9_nodeFrom_12 (by decide) ?_
      refine zj_callS1 (n := 19) (a' := 0) (b' := 0) rfl dX9_nodeFrom_16 zm_X9_72 (by decide) (Nat.le_of_ble_eq_true rfl) (Nat.le_of_ble_eq_true rfl) (Nat.le_of_ble_eq_true rfl) (Nat.le_of_ble_eq_true rfl) (jX9_needArgument (p := true) (fun _ => ?_) (fun q => by cases q))
      have c2 : zin x 10000 = true := zin_t c1 c8
      obtain ⟨p, hp, rfl⟩ := (zin_iff (by decide)).mp c2
      refine zj_iconst_m1 (n := 20) rfl dX9_nodeFrom_19 ?_
      refine zj_istore2 (n := 21) rfl dX9_nodeFrom_20 rfl (Nat.le_of_ble_eq_true rfl) ?_
      refine zj_iconstN_0 (n := 22) rfl dX9_nodeFrom_21 ?_
      refine zj_istore3 (n := 23) rfl dX9_nodeFrom_22 rfl (Nat.le_of_ble_eq_true rfl) ?_
      refine zj_sub (l' := [some (.ref 99), some (.int (nI p)), some (.int (zo (vbest (fun _ => true) (fun n => vway v n p) 0).1)), some (.int (nI 0))]) (by simp only [zLe, eq_self, and_true, true_and, Value.int.injEq]; exact rfl) ?_
      refine zFor_rule (P := fun k (_ : Unit) => zJ yX9_nodeFrom cX9_nodeFrom 4 (some .int) rX9_nodeFrom Q X 0 0 23 [some (.ref 99), some (.int (nI p)), some (.int (zo ((vbest (fun _ => true) (fun n => vway v n p) k).1))), some (.int (nI k))] [] M) (n := v 6) (f := fun _ s => s) (s0 := ()) ?_ ?_
      · intro k _ hk9 hk
        refine zj_iload3 (n := 24) rfl dX9_nodeFrom_23 ?_
        refine zj_aload0 (n := 25) rfl dX9_nodeFrom_24 ?_
        refine zj_getr (n := 28) (q := 0) rfl dX9_nodeFrom_25 zf_X9_33 rfl (by decide) (by decide) rfl ?_
        refine zj_getr (n := 31) (q := 1) rfl dX9_nodeFrom_28 zf_X9_123 rfl (by decide) (by decide) rfl ?_
        refine zj_getiN (e := v 6) (n := 34) rfl dX9_nodeFrom_31 zf_X9_95 rfl (by decide) (by decide) hR.n.1.2.2.2.1 ?_
        refine zj_icmpN_ge (n := 37) (tgt := 71) rfl dX9_nodeFrom_34 (by decide) (by omega) (by omega) (fun c34 => by omega) (fun c34 => ?_)
        refine zj_iload2 (n := 38) rfl dX9_nodeFrom_37 ?_
        refine zj_iconst_m1 (n := 39) rfl dX9_nodeFrom_38 ?_
        refine zj_icmpO_eq (n := 42) (tgt := 63) rfl dX9_nodeFrom_39 (by decide) (fun m hm => by have := (vbest_min (can := (fun _ => true)) (K := (fun n => vway v n p)) k).1; rw [hm] at this; have := this.1; omega) (fun c39 => ?_) (fun m39 c39 => ?_)
        · refine zj_iload3 (n := 64) rfl dX9_nodeFrom_63 ?_
          refine zj_istore2 (n := 65) rfl dX9_nodeFrom_64 rfl (Nat.le_of_ble_eq_true rfl) ?_
          refine zj_iincN3 (n := 68) rfl dX9_nodeFrom_65 rfl (Nat.le_of_ble_eq_true rfl) ?_
          refine zj_goto (tgt := 23) dX9_nodeFrom_68 (by decide) ?_
          rw [vbest_t (by rw [c39]; rfl)] at hk
          exact hk
        · have hm6 : m39 < v 6 := by have := (vbest_min (can := (fun _ => true)) (K := (fun n => vway v n p)) k).1; rw [c39] at this; have := this.1; omega
          have hm2 : (vbest (fun _ => true) (fun n => vway v n p) k).2 = vway v m39 p := (vbest_min (can := (fun _ => true)) (K := (fun n => vway v n p)) k).2 m39 c39
          rw [c39]
          refine zj_aload0 (n := 43) rfl dX9_nodeFrom_42 ?_
          refine zj_getr (n := 46) (q := 0) rfl dX9_nodeFrom_43 zf_X9_33 rfl (by decide) (by decide) rfl ?_
          refine zj_iload3 (n := 47) rfl dX9_nodeFrom_46 ?_
          refine zj_iload1 (n := 48) rfl dX9_nodeFrom_47 ?_
          refine zj_callV2 (n := 51) (a' := 0) (b' := 0) rfl dX9_nodeFrom_48 zm_X9_136 (by decide) (by decide) rfl (Nat.le_of_ble_eq_true rfl) (Nat.le_of_ble_eq_true rfl) (Nat.le_of_ble_eq_true rfl) (Nat.le_of_ble_eq_true rfl) (jX6_wayTo (n := k) hR.i hR.n hk9 (hW.node hk9).1 (by omega) ?_)
          refine zj_aload0 (n := 52) rfl dX9_nodeFrom_51 ?_
          refine zj_getr (n := 55) (q := 0) rfl dX9_nodeFrom_52 zf_X9_33 rfl (by decide) (by decide) rfl ?_
          refine zj_iload2 (n := 56) rfl dX9_nodeFrom_55 ?_
          refine zj_iload1 (n := 57) rfl dX9_nodeFrom_56 ?_
          refine zj_callV2 (n := 60) (a' := 0) (b' := 0) rfl dX9_nodeFrom_57 zm_X9_136 (by decide) (by decide) rfl (Nat.le_of_ble_eq_true rfl) (Nat.le_of_ble_eq_true rfl) (Nat.le_of_ble_eq_true rfl) (Nat.le_of_ble_eq_true rfl) (jX6_wayTo (n := m39) hR.i hR.n hm6 (hW.node hm6).1 (by omega) ?_)
          refine zj_icmpN_ge (n := 63) (tgt := 65) rfl dX9_nodeFrom_60 (by decide) (by have := vway_lt v k p; have := vway_lt v m39 p; omega) (by have := vway_lt v k p; have := vway_lt v m39 p; omega) (fun c60 => ?_) (fun c60 => ?_)
          · refine zj_iincN3 (n := 68) rfl dX9_nodeFrom_65 rfl (Nat.le_of_ble_eq_true rfl) ?_
            refine zj_goto (tgt := 23) dX9_nodeFrom_68 (by decide) ?_
            rw [vbest_f (by rw [c39, hm2, decide_eq_false (show ¬ (fun n => vway v n p) k < vway v m39 p by dsimp only; omega)]; rfl), c39] at hk
            exact hk
          · refine zj_iload3 (n := 64) rfl dX9_nodeFrom_63 ?_
            refine zj_istore2 (n := 65) rfl dX9_nodeFrom_64 rfl (Nat.le_of_ble_eq_true rfl) ?_
            refine zj_iincN3 (n := 68) rfl dX9_nodeFrom_65 rfl (Nat.le_of_ble_eq_true rfl) ?_
            refine zj_goto (tgt := 23) dX9_nodeFrom_68 (by decide) ?_
            rw [vbest_t (by rw [hm2, decide_eq_true (show (fun n => vway v n p) k < vway v m39 p from c60)]; simp)] at hk
            exact hk
      · skip
        refine zj_iload3 (n := 24) rfl dX9_nodeFrom_23 ?_
        refine zj_aload0 (n := 25) rfl dX9_nodeFrom_24 ?_
        refine zj_getr (n := 28) (q := 0) rfl dX9_nodeFrom_25 zf_X9_33 rfl (by decide) (by decide) rfl ?_
        refine zj_getr (n := 31) (q := 1) rfl dX9_nodeFrom_28 zf_X9_123 rfl (by decide) (by decide) rfl ?_
        refine zj_getiN (e := v 6) (n := 34) rfl dX9_nodeFrom_31 zf_X9_95 rfl (by decide) (by decide) hR.n.1.2.2.2.1 ?_
        refine zj_icmpN_ge (n := 37) (tgt := 71) rfl dX9_nodeFrom_34 (by decide) (by omega) (by omega) (fun c34 => ?_) (fun c34 => by omega)
        refine zj_iload2 (n := 72) rfl dX9_nodeFrom_71 ?_
        refine zj_ireturn dX9_nodeFrom_72 rfl rfl ?_
        have e := vbest_from (v := v) (p := p) (fun n hn => (hW.node hn).1) (fun n m hn hm e => hW.apart hn hm e) (by omega)
        rw [e]
        have h := h (by simp only [a_nodeFrom, c2, if_true, Bool.and_true, Bool.true_and]) _ (hC.rf)
        simp only [a_nodeFrom, c2, xn_at (show p < 2 ^ 31 by omega), if_true, Bool.and_true, Bool.true_and] at h
        exact h
theorem jX9_needShard {v : zV} {x z : Int32} {Q : Option Value → zM → Prop} {X : String → zM → Prop} {M : zM} (hR : zRg M 0 v) (hW : zWF v) (h : ∀ n k, n < v 8 → x = nI n → k < vsh v n → z = nI k → Q none M) (h2 : (zin x (v 8) && zin z (vsh v (xn x))) = false → X "java/lang/IndexOutOfBoundsException" M) : zJ yX9_needShard cX9_needShard 3 none rX9_needShard Q X rX9_needShard.cells rX9_needShard.slots 0 (zEnt 3 [.ref 99, .int x, .int z]) [] M := by
  have h8 := hW.gN
  show zJ yX9_needShard cX9_needShard 3 none rX9_needShard Q X 2 12 0 [some (.ref 99), some (.int x), some (.int z)] [] M
  refine zj_aload0 (n := 1) rfl dX9_needShard_0 ?_
  refine zj_iload1 (n := 2) rfl dX9_needShard_1 ?_
  refine zj_callV1 (n := 5) (a' := 1) (b' := 6) rfl dX9_needShard_2 zm_X9_145 (by decide) (by decide) rfl (Nat.le_of_ble_eq_true rfl) (Nat.le_of_ble_eq_true rfl) (Nat.le_of_ble_eq_true rfl) (Nat.le_of_ble_eq_true rfl) (jX9_needGroup hR (fun c2 => ?_) (fun c2 => h2 (by rw [c2]; rfl)))
  obtain ⟨n, hn, rfl⟩ := (zin_iff (by omega)).mp c2
  have hsh := (hW.sh hn).2
  refine zj_iload2 (n := 6) rfl dX9_needShard_5 ?_
  refine zj_if_lt (n := 9) (tgt := 30) rfl dX9_needShard_6 (by decide) (fun c6 => ?_) (fun c6 => ?_)
  · refine zj_iconstN_0 (n := 31) rfl dX9_needShard_30 ?_
    refine zj_callS1 (n := 34) (a' := 0) (b' := 0) rfl dX9_needShard_31 zm_X9_308 (by decide) (Nat.le_of_ble_eq_true rfl) (Nat.le_of_ble_eq_true rfl) (Nat.le_of_ble_eq_true rfl) (Nat.le_of_ble_eq_true rfl) (jX9_needIndex (p := false) (fun q => by cases q) (fun _ => h2 (by rw [xn_at (show n < 2 ^ 31 by omega), zin_f1 c6, Bool.and_false])))
  · refine zj_iload2 (n := 10) rfl dX9_needShard_9 ?_
    refine zj_aload0 (n := 11) rfl dX9_needShard_10 ?_
    refine zj_getr (n := 14) (q := 0) rfl dX9_needShard_11 zf_X9_33 rfl (by decide) (by decide) rfl ?_
    refine zj_getr (n := 17) (q := 5) rfl dX9_needShard_14 zf_X9_91 rfl (by decide) (by decide) rfl ?_
    refine zj_iload1 (n := 18) rfl dX9_needShard_17 ?_
    refine zj_bipushN (v := 9) (n := 20) rfl dX9_needShard_18 (by decide) ?_
    refine zj_callV2 (n := 23) (a' := 1) (b' := 6) rfl dX9_needShard_20 zm_X9_126 (by decide) (by decide) rfl (Nat.le_of_ble_eq_true rfl) (Nat.le_of_ble_eq_true rfl) (Nat.le_of_ble_eq_true rfl) (Nat.le_of_ble_eq_true rfl) (jT_get hR.g.1 (by omega) (by decide) (hR.g.n (by omega)) ?_)
    refine zj_icmp_ge (n := 26) (tgt := 30) rfl dX9_needShard_23 (by decide) (fun c23 => ?_) (fun c23 => ?_)
    · refine zj_iconstN_0 (n := 31) rfl dX9_needShard_30 ?_
      refine zj_callS1 (n := 34) (a' := 0) (b' := 0) rfl dX9_needShard_31 zm_X9_308 (by decide) (Nat.le_of_ble_eq_true rfl) (Nat.le_of_ble_eq_true rfl) (Nat.le_of_ble_eq_true rfl) (Nat.le_of_ble_eq_true rfl) (jX9_needIndex (p := false) (fun q => by cases q) (fun _ => h2 (by rw [xn_at (show n < 2 ^ 31 by omega), zin_f2 c23, Bool.and_false])))
    · refine zj_iconstN_1 (n := 27) rfl dX9_needShard_26 ?_
      refine zj_goto (tgt := 31) dX9_needShard_27 (by decide) ?_
      refine zj_callS1 (n := 34) (a' := 0) (b' := 0) rfl dX9_needShard_31 zm_X9_308 (by decide) (Nat.le_of_ble_eq_true rfl) (Nat.le_of_ble_eq_true rfl) (Nat.le_of_ble_eq_true rfl) (Nat.le_of_ble_eq_true rfl) (jX9_needIndex (p := true) (fun _ => ?_) (fun q => by cases q))
      refine zj_return dX9_needShard_34 rfl ?_
      obtain ⟨k, hk, rfl⟩ := (zin_iff (show vsh v n < 2 ^ 31 by omega)).mp (zin_t c6 c23)
      exact h n k hn rfl hk rfl
theorem jX9_nodeOf {v : zV} {x : Int32} {z : Int32} {Q : Option Value → zM → Prop} {X : String → zM → Prop} {M : zM} (hC : zCl M v) (hW : zWF v) (hx1 : (a_nodeOf v x z).1 = 1 → X "java/lang/IndexOutOfBoundsException" M) (h : (a_nodeOf v x z).1 = 0 → ∀ M', zQn M M' → Q (some (.int (a_nodeOf v x z).2)) M') : zJ yX9_nodeOf cX9_nodeOf 3 (some .int) rX9_nodeOf Q X rX9_nodeOf.cells rX9_nodeOf.slots 0 (zEnt 3 [.ref 99, .int x, .int z]) [] M := by
  have hR := hC.1
  have h6 := hW.nN
  have h7 := hW.tN
  have h8 := hW.gN
  have h9 := hW.hN
  show zJ yX9_nodeOf cX9_nodeOf 3 (some .int) rX9_nodeOf Q X 2 12 0 [some (.ref 99), some (.int x), some (.int z)] [] M
  refine zj_aload0 (n := 1) rfl dX9_nodeOf_0 ?_
  refine zj_iload1 (n := 2) rfl dX9_nodeOf_1 ?_
  refine zj_iload2 (n := 3) rfl dX9_nodeOf_2 ?_
  refine zj_callV2 (n := 6) (a' := 0) (b' := 0) rfl dX9_nodeOf_3 zm_X9_151 (by decide) (by decide) rfl (Nat.le_of_ble_eq_true rfl) (Nat.le_of_ble_eq_true rfl) (Nat.le_of_ble_eq_true rfl) (Nat.le_of_ble_eq_true rfl) (jX9_needShard hR hW (fun n k hn e1 hk e2 => ?_) (fun q => hx1 (by simp only [a_nodeOf, q, if_false, Bool.false_eq_true])))
  subst e1
  subst e2
  have hsh := (hW.sh hn).2
  have c2 := (zin_iff (x := nI n) (n := v 8) (by omega)).mpr ⟨n, hn, rfl⟩
  have c3 := (zin_iff (x := nI k) (n := vsh v n) (by omega)).mpr ⟨k, hk, rfl⟩
  refine zj_aload0 (n := 7) rfl dX9_nodeOf_6 ?_
  refine zj_getr (n := 10) (q := 0) rfl dX9_nodeOf_7 zf_X9_33 rfl (by decide) (by decide) rfl ?_
  refine zj_iload1 (n := 11) rfl dX9_nodeOf_10 ?_
  refine zj_iload2 (n := 12) rfl dX9_nodeOf_11 ?_
  refine zj_callV2 (n := 15) (a' := 0) (b' := 0) rfl dX9_nodeOf_12 zm_X9_155 (by decide) (by decide) rfl (Nat.le_of_ble_eq_true rfl) (Nat.le_of_ble_eq_true rfl) (Nat.le_of_ble_eq_true rfl) (Nat.le_of_ble_eq_true rfl) (jX6_nodeWith hR hW hn hk ?_)
  refine zj_ireturn dX9_nodeOf_15 rfl rfl ?_
  have h := h (by simp only [a_nodeOf, c2, xn_at (show n < 2 ^ 31 by omega), c3, Bool.and_true, if_true]) _ hC.rf
  simp only [a_nodeOf, c2, xn_at (show n < 2 ^ 31 by omega), xn_at (show k < 2 ^ 31 by omega), c3, Bool.and_true, if_true] at h
  exact h
theorem jX9_zonesOf {v : zV} {x : Int32} {Q : Option Value → zM → Prop} {X : String → zM → Prop} {M : zM} (hC : zCl M v) (hW : zWF v) (hx1 : (a_zonesOf v x).1 = 1 → X "java/lang/IndexOutOfBoundsException" M) (h : (a_zonesOf v x).1 = 0 → ∀ M', zQn M M' → Q (some (.int (a_zonesOf v x).2)) M') : zJ yX9_zonesOf cX9_zonesOf 2 (some .int) rX9_zonesOf Q X rX9_zonesOf.cells rX9_zonesOf.slots 0 (zEnt 2 [.ref 99, .int x]) [] M := by
  have hR := hC.1
  have h6 := hW.nN
  have h7 := hW.tN
  have h8 := hW.gN
  have h9 := hW.hN
  show zJ yX9_zonesOf cX9_zonesOf 2 (some .int) rX9_zonesOf Q X 1 6 0 [some (.ref 99), some (.int x)] [] M
  refine zj_aload0 (n := 1) rfl dX9_zonesOf_0 ?_
  refine zj_iload1 (n := 2) rfl dX9_zonesOf_1 ?_
  refine zj_callV1 (n := 5) (a' := 0) (b' := 0) rfl dX9_zonesOf_2 zm_X9_145 (by decide) (by decide) rfl (Nat.le_of_ble_eq_true rfl) (Nat.le_of_ble_eq_true rfl) (Nat.le_of_ble_eq_true rfl) (Nat.le_of_ble_eq_true rfl) (jX9_needGroup hR (fun c2 => ?_) (fun c2 => hx1 (by simp [a_zonesOf, c2])))
  obtain ⟨n, hn, rfl⟩ := (zin_iff (by omega)).mp c2
  have hsh := (hW.sh hn).2
  refine zj_aload0 (n := 6) rfl dX9_zonesOf_5 ?_
  refine zj_getr (n := 9) (q := 0) rfl dX9_zonesOf_6 zf_X9_33 rfl (by decide) (by decide) rfl ?_
  refine zj_iload1 (n := 10) rfl dX9_zonesOf_9 ?_
  refine zj_aload0 (n := 11) rfl dX9_zonesOf_10 ?_
  refine zj_getr (n := 14) (q := 0) rfl dX9_zonesOf_11 zf_X9_33 rfl (by decide) (by decide) rfl ?_
  refine zj_iload1 (n := 15) rfl dX9_zonesOf_14 ?_
  refine zj_iconstN_0 (n := 16) rfl dX9_zonesOf_15 ?_
  refine zj_callV2 (n := 19) (a' := 0) (b' := 0) rfl dX9_zonesOf_16 zm_X9_161 (by decide) (by decide) rfl (Nat.le_of_ble_eq_true rfl) (Nat.le_of_ble_eq_true rfl) (Nat.le_of_ble_eq_true rfl) (Nat.le_of_ble_eq_true rfl) (jX6_availableSet hR hW hn (by decide) ?_)
  refine zj_callV2 (n := 22) (a' := 0) (b' := 0) rfl dX9_zonesOf_19 zm_X9_164 (by decide) (by decide) rfl (Nat.le_of_ble_eq_true rfl) (Nat.le_of_ble_eq_true rfl) (Nat.le_of_ble_eq_true rfl) (Nat.le_of_ble_eq_true rfl) (jX6_zoneSet (many := vsh v n) (P := fun s => decide (s < vsh v n) && vav v 0 n s) hR.i hR.n hR.g hn rfl hsh (Nat.le_refl _) h6 (fun s hs => hW.holds hn hs) (fun m hm => (hW.node hm).2.1) (fun s hs => zmaskbit (by omega) (by omega)) ?_)
  rw [show vzs v n (vsh v n) (fun s => decide (s < vsh v n) && vav v 0 n s) = vzs v n (vsh v n) (fun s => vav v 0 n s) from zMask_congr (fun i _ => zAny_congr (fun s hs => by dsimp only; rw [decide_eq_true hs, Bool.true_and]))]
  refine zj_callS1 (n := 25) (a' := 0) (b' := 0) rfl dX9_zonesOf_22 zm_X9_167 (by decide) (Nat.le_of_ble_eq_true rfl) (Nat.le_of_ble_eq_true rfl) (Nat.le_of_ble_eq_true rfl) (Nat.le_of_ble_eq_true rfl) (jJ_bitCountN (vzs_lt _ _ _ _) ?_)
  refine zj_ireturn dX9_zonesOf_25 rfl rfl ?_
  have h := h (by simp only [a_zonesOf, c2, if_true, Bool.and_true, Bool.true_and]) _ (hC.rf)
  simp only [a_zonesOf, c2, xn_at (show n < 2 ^ 31 by omega), if_true, Bool.and_true, Bool.true_and] at h
  exact h
theorem jX9_bidder {v : zV} {x : Int32} {Q : Option Value → zM → Prop} {X : String → zM → Prop} {M : zM} (hC : zCl M v) (hW : zWF v) (hx1 : (a_bidder v x).1 = 1 → X "java/lang/IllegalArgumentException" M) (h : (a_bidder v x).1 = 0 → ∀ M', zQn M M' → Q (some (.int (a_bidder v x).2)) M') : zJ yX9_bidder cX9_bidder 2 (some .int) rX9_bidder Q X rX9_bidder.cells rX9_bidder.slots 0 (zEnt 2 [.ref 99, .int x]) [] M := by
  have hR := hC.1
  have h6 := hW.nN
  have h7 := hW.tN
  have h8 := hW.gN
  have h9 := hW.hN
  show zJ yX9_bidder cX9_bidder 2 (some .int) rX9_bidder Q X 1 6 0 [some (.ref 99), some (.int x)] [] M
  refine zj_iload1 (n := 1) rfl dX9_bidder_0 ?_
  refine zj_if_lt (n := 4) (tgt := 8) rfl dX9_bidder_1 (by decide) (fun c1 => ?_) (fun c1 => ?_)
  · refine zj_iconstN_0 (n := 9) rfl dX9_bidder_8 ?_
    refine zj_callS1 (n := 12) (a' := 0) (b' := 0) rfl dX9_bidder_9 zm_X9_72 (by decide) (Nat.le_of_ble_eq_true rfl) (Nat.le_of_ble_eq_true rfl) (Nat.le_of_ble_eq_true rfl) (Nat.le_of_ble_eq_true rfl) (jX9_needArgument (p := false) (fun q => by cases q) (fun _ => hx1 (by unfold a_bidder; rw [if_neg (Int32.not_le.mpr c1)])))
  · refine zj_iconstN_1 (n := 5) rfl dX9_bidder_4 ?_
    refine zj_goto (tgt := 9) dX9_bidder_5 (by decide) ?_
    refine zj_callS1 (n := 12) (a' := 0) (b' := 0) rfl dX9_bidder_9 zm_X9_72 (by decide) (Nat.le_of_ble_eq_true rfl) (Nat.le_of_ble_eq_true rfl) (Nat.le_of_ble_eq_true rfl) (Nat.le_of_ble_eq_true rfl) (jX9_needArgument (p := true) (fun _ => ?_) (fun q => by cases q))
    obtain ⟨n, hn, rfl⟩ := nI_of c1
    refine zj_aload0 (n := 13) rfl dX9_bidder_12 ?_
    refine zj_getr (n := 16) (q := 105) rfl dX9_bidder_13 zf_X9_40 rfl (by decide) (by decide) rfl ?_
    refine zj_aload0 (n := 17) rfl dX9_bidder_16 ?_
    refine zj_getr (n := 20) (q := 0) rfl dX9_bidder_17 zf_X9_33 rfl (by decide) (by decide) rfl ?_
    refine zj_callV1 (n := 23) (a' := 0) (b' := 0) rfl dX9_bidder_20 zm_X9_209 (by decide) (by decide) rfl (Nat.le_of_ble_eq_true rfl) (Nat.le_of_ble_eq_true rfl) (Nat.le_of_ble_eq_true rfl) (Nat.le_of_ble_eq_true rfl) (jX0_hold hC.2.2.1 hR hW ?_)
    intro M2 hF2 hH2
    have hn10 := vord_le hW 0
    have hQ2 := hC.ofA hF2 (hH2.o (Or.inl rfl))
    refine zj_iload1 (n := 24) rfl dX9_bidder_23 ?_
    refine zj_aload0 (n := 25) rfl dX9_bidder_24 ?_
    refine zj_getr (n := 28) (q := 105) rfl dX9_bidder_25 zf_X9_40 rfl (by decide) (by decide) rfl ?_
    refine zj_getr (n := 31) (q := 108) rfl dX9_bidder_28 zf_X9_212 rfl (by decide) (by decide) rfl ?_
    refine zj_getiN (e := (vord v 0).1) (n := 34) rfl dX9_bidder_31 zf_X9_95 rfl (by decide) (by decide) hH2.1.1.2.2.2.1 ?_
    refine zj_icmpN_ge (n := 37) (tgt := 52) rfl dX9_bidder_34 (by decide) (by omega) (by omega) (fun c34 => ?_) (fun c34 => ?_)
    · refine zj_iconst_m1 (n := 53) rfl dX9_bidder_52 ?_
      refine zj_ireturn dX9_bidder_53 rfl rfl ?_
      have h := h (by unfold a_bidder; rw [if_pos (nI_pos' hn)]) _ hQ2
      unfold a_bidder at h
      rw [if_pos (nI_pos' hn), xn_at hn, if_neg (by omega)] at h
      exact h
    · refine zj_aload0 (n := 38) rfl dX9_bidder_37 ?_
      refine zj_getr (n := 41) (q := 105) rfl dX9_bidder_38 zf_X9_40 rfl (by decide) (by decide) rfl ?_
      refine zj_getr (n := 44) (q := 108) rfl dX9_bidder_41 zf_X9_212 rfl (by decide) (by decide) rfl ?_
      refine zj_iload1 (n := 45) rfl dX9_bidder_44 ?_
      refine zj_iconstN_0 (n := 46) rfl dX9_bidder_45 ?_
      refine zj_callV2 (n := 49) (a' := 0) (b' := 0) rfl dX9_bidder_46 zm_X9_126 (by decide) (by decide) rfl (Nat.le_of_ble_eq_true rfl) (Nat.le_of_ble_eq_true rfl) (Nat.le_of_ble_eq_true rfl) (Nat.le_of_ble_eq_true rfl) (jT_get (e := (vord v 0).2 n) hH2.1.1 c34 (by decide) (hH2.1.2 n c34).1 ?_)
      refine zj_goto (tgt := 53) dX9_bidder_49 (by decide) ?_
      refine zj_ireturn dX9_bidder_53 rfl rfl ?_
      have h := h (by unfold a_bidder; rw [if_pos (nI_pos' hn)]) _ hQ2
      unfold a_bidder at h
      rw [if_pos (nI_pos' hn), xn_at hn, if_pos c34] at h
      exact h
theorem jX9_clearingPrice {v : zV} {Q : Option Value → zM → Prop} {X : String → zM → Prop} {M : zM} (hC : zCl M v) (hW : zWF v) (h : (a_clearing v).1 = 0 → ∀ M', zQn M M' → Q (some (.int (a_clearing v).2)) M') : zJ yX9_clearingPrice cX9_clearingPrice 1 (some .int) rX9_clearingPrice Q X rX9_clearingPrice.cells rX9_clearingPrice.slots 0 (zEnt 1 [.ref 99]) [] M := by
  have hR := hC.1
  have h6 := hW.nN
  have h7 := hW.tN
  have h8 := hW.gN
  have h9 := hW.hN
  show zJ yX9_clearingPrice cX9_clearingPrice 1 (some .int) rX9_clearingPrice Q X 0 0 0 [some (.ref 99)] [] M
  refine zj_aload0 (n := 1) rfl dX9_clearingPrice_0 ?_
  refine zj_getr (n := 4) (q := 105) rfl dX9_clearingPrice_1 zf_X9_40 rfl (by decide) (by decide) rfl ?_
  refine zj_aload0 (n := 5) rfl dX9_clearingPrice_4 ?_
  refine zj_getr (n := 8) (q := 0) rfl dX9_clearingPrice_5 zf_X9_33 rfl (by decide) (by decide) rfl ?_
  refine zj_callV1 (n := 11) (a' := 0) (b' := 0) rfl dX9_clearingPrice_8 zm_X9_209 (by decide) (by decide) rfl (Nat.le_of_ble_eq_true rfl) (Nat.le_of_ble_eq_true rfl) (Nat.le_of_ble_eq_true rfl) (Nat.le_of_ble_eq_true rfl) (jX0_hold hC.2.2.1 hR hW ?_)
  intro M2 hF2 hH2
  have hn10 := vord_le hW 0
  have hQ2 := hC.ofA hF2 (hH2.o (Or.inl rfl))
  refine zj_aload0 (n := 12) rfl dX9_clearingPrice_11 ?_
  refine zj_getr (n := 15) (q := 105) rfl dX9_clearingPrice_12 zf_X9_40 rfl (by decide) (by decide) rfl ?_
  refine zj_getiN (e := vclr v) (n := 18) rfl dX9_clearingPrice_15 zf_X9_218 rfl (by decide) (by decide) hH2.2.2.2.1 ?_
  exact zj_ireturn dX9_clearingPrice_18 rfl rfl (h rfl _ hQ2)
theorem zfo_s {n k : Nat} {p : Nat → Bool} (h : zfo n p = some k) : zFst n p = k ∧ k < n := by
  unfold zfo at h
  split at h
  · rename_i q
    cases h
    exact ⟨rfl, q⟩
  · cases h
theorem zfo_n {n : Nat} {p : Nat → Bool} (h : zFst n p < n) : zfo n p = some (zFst n p) := if_pos h
theorem zfo_congr {n : Nat} {p q : Nat → Bool} (h : ∀ i, i < n → p i = q i) : zfo n p = zfo n q := by
  unfold zfo
  rw [zFst_congr h]
theorem jX9_outcome {v : zV} {x : Int32} {z : Int32} {Q : Option Value → zM → Prop} {X : String → zM → Prop} {M : zM} (hC : zCl M v) (hW : zWF v) (hx1 : (a_outcome v x z).1 = 1 → X "java/lang/IndexOutOfBoundsException" M) (hx2 : (a_outcome v x z).1 = 2 → X "java/lang/IllegalArgumentException" M) (h : (a_outcome v x z).1 = 0 → ∀ M', zQn M M' → Q (some (.int (a_outcome v x z).2)) M') : zJ yX9_outcome cX9_outcome 3 (some .int) rX9_outcome Q X rX9_outcome.cells rX9_outcome.slots 0 (zEnt 3 [.ref 99, .int x, .int z]) [] M := by
  have hR := hC.1
  have h6 := hW.nN
  have h7 := hW.tN
  have h8 := hW.gN
  have h9 := hW.hN
  show zJ yX9_outcome cX9_outcome 3 (some .int) rX9_outcome Q X 2 12 0 [some (.ref 99), some (.int x), some (.int z)] [] M
  refine zj_aload0 (n := 1) rfl dX9_outcome_0 ?_
  refine zj_iload1 (n := 2) rfl dX9_outcome_1 ?_
  refine zj_callV1 (n := 5) (a' := 1) (b' := 6) rfl dX9_outcome_2 zm_X9_145 (by decide) (by decide) rfl (Nat.le_of_ble_eq_true rfl) (Nat.le_of_ble_eq_true rfl) (Nat.le_of_ble_eq_true rfl) (Nat.le_of_ble_eq_true rfl) (jX9_needGroup hR (fun c2 => ?_) (fun c2 => hx1 (by simp [a_outcome, c2])))
  obtain ⟨n, hn, rfl⟩ := (zin_iff (by omega)).mp c2
  refine zj_iload2 (n := 6) rfl dX9_outcome_5 ?_
  refine zj_if_eq (n := 9) (tgt := 14) rfl dX9_outcome_6 (by decide) (fun c6 => ?_) (fun c6 => ?_)
  · have d2 : zin z 2 = true := by rw [c6]; decide
    obtain rfl : z = nI 0 := c6
    refine zj_iconstN_1 (n := 15) rfl dX9_outcome_14 ?_
    refine zj_goto (tgt := 19) dX9_outcome_15 (by decide) ?_
    refine zj_callS1 (n := 22) (a' := 0) (b' := 0) rfl dX9_outcome_19 zm_X9_72 (by decide) (Nat.le_of_ble_eq_true rfl) (Nat.le_of_ble_eq_true rfl) (Nat.le_of_ble_eq_true rfl) (Nat.le_of_ble_eq_true rfl) (jX9_needArgument (p := true) (fun _ => ?_) (fun q => by cases q))
    -- 
    refine zj_aload0 (n := 23) rfl dX9_outcome_22 ?_
    refine zj_getr (n := 26) (q := 105) rfl dX9_outcome_23 zf_X9_40 rfl (by decide) (by decide) rfl ?_
    refine zj_aload0 (n := 27) rfl dX9_outcome_26 ?_
    refine zj_getr (n := 30) (q := 0) rfl dX9_outcome_27 zf_X9_33 rfl (by decide) (by decide) rfl ?_
    refine zj_callV1 (n := 33) (a' := 0) (b' := 0) rfl dX9_outcome_30 zm_X9_209 (by decide) (by decide) rfl (Nat.le_of_ble_eq_true rfl) (Nat.le_of_ble_eq_true rfl) (Nat.le_of_ble_eq_true rfl) (Nat.le_of_ble_eq_true rfl) (jX0_hold hC.2.2.1 hR hW ?_)
    intro M2 hF2 hH2
    have hn10 := vord_le hW 0
    have hQ2 := hC.ofA hF2 (hH2.o (Or.inl rfl))
    refine zj_aload0 (n := 34) rfl dX9_outcome_33 ?_
    refine zj_getr (n := 37) (q := 105) rfl dX9_outcome_34 zf_X9_40 rfl (by decide) (by decide) rfl ?_
    refine zj_getr (n := 40) (q := 108) rfl dX9_outcome_37 zf_X9_212 rfl (by decide) (by decide) rfl ?_
    refine zj_aload0 (n := 41) rfl dX9_outcome_40 ?_
    refine zj_getr (n := 44) (q := 105) rfl dX9_outcome_41 zf_X9_40 rfl (by decide) (by decide) rfl ?_
    refine zj_getr (n := 47) (q := 108) rfl dX9_outcome_44 zf_X9_212 rfl (by decide) (by decide) rfl ?_
    refine zj_iconstN_0 (n := 48) rfl dX9_outcome_47 ?_
    refine zj_iload1 (n := 49) rfl dX9_outcome_48 ?_
    refine zj_callV2 (n := 52) (a' := 0) (b' := 0) rfl dX9_outcome_49 zm_X9_215 (by decide) (by decide) rfl (Nat.le_of_ble_eq_true rfl) (Nat.le_of_ble_eq_true rfl) (Nat.le_of_ble_eq_true rfl) (Nat.le_of_ble_eq_true rfl) (jX7_rowWith hH2.1.1 (show 0 < 4 by decide) ?_)
    rw [show zfo (vord v 0).1 (fun r => decide (M2.1 (108 + 1) (r * 4 + 0) = nI n)) = zfo (vord v 0).1 (fun k => decide ((vord v 0).2 k = n)) from zfo_congr (fun k hk => by rw [(hH2.1.2 k hk).1]; have hb := (vbidder hW hk).1; exact decide_eq_decide.mpr (nI_eq (by omega) (by omega)))]
    rcases ez : zfo (vord v 0).1 (fun k => decide ((vord v 0).2 k = n)) with _ | k
    · -- 
      refine zj_iload2 (n := 53) rfl dX9_outcome_52 ?_
      refine zj_ifN_ne (n := 56) (tgt := 60) rfl dX9_outcome_53 (by decide) (by omega) (fun h => absurd h (by decide)) (fun _ => ?_)
      refine zj_iconstN_2 (n := 57) rfl dX9_outcome_56 ?_
      refine zj_goto (tgt := 61) dX9_outcome_57 (by decide) ?_
      -- 
      refine zj_callV2 (n := 64) (a' := 0) (b' := 0) rfl dX9_outcome_61 zm_X9_126 (by decide) (by decide) rfl (Nat.le_of_ble_eq_true rfl) (Nat.le_of_ble_eq_true rfl) (Nat.le_of_ble_eq_true rfl) (Nat.le_of_ble_eq_true rfl) (jT_getM hH2.1.1.1 ?_)
      refine zj_ireturn dX9_outcome_64 rfl rfl ?_
      have h := h (by simp only [a_outcome, c2, d2, if_true]) _ hQ2
      simp only [a_outcome, c2, d2, if_true, xn_at (show n < 2 ^ 31 by omega), xn_at (show 0 < 2 ^ 31 by decide)] at h
      rw [show vout v n 0 = 0 by unfold vout; rw [if_neg (fun q => by rw [zfo_n q] at ez; cases ez)]] at h
      exact h
    · -- 
      refine zj_iload2 (n := 53) rfl dX9_outcome_52 ?_
      refine zj_ifN_ne (n := 56) (tgt := 60) rfl dX9_outcome_53 (by decide) (by omega) (fun h => absurd h (by decide)) (fun _ => ?_)
      refine zj_iconstN_2 (n := 57) rfl dX9_outcome_56 ?_
      refine zj_goto (tgt := 61) dX9_outcome_57 (by decide) ?_
      have hk9 := (zfo_s ez).2
      refine zj_callV2 (n := 64) (a' := 0) (b' := 0) rfl dX9_outcome_61 zm_X9_126 (by decide) (by decide) rfl (Nat.le_of_ble_eq_true rfl) (Nat.le_of_ble_eq_true rfl) (Nat.le_of_ble_eq_true rfl) (Nat.le_of_ble_eq_true rfl) (jT_get (e := vunits v 0 k) hH2.1.1 hk9 (by decide) (hH2.2.1 k hk9) ?_)
      refine zj_ireturn dX9_outcome_64 rfl rfl ?_
      have h := h (by simp only [a_outcome, c2, d2, if_true]) _ hQ2
      simp only [a_outcome, c2, d2, if_true, xn_at (show n < 2 ^ 31 by omega), xn_at (show 0 < 2 ^ 31 by decide)] at h
      obtain ⟨z1, z2⟩ := zfo_s ez
      rw [show vout v n 0 = vunits v 0 k by unfold vout; rw [z1, if_pos z2, if_pos rfl]] at h
      exact h
  · refine zj_iload2 (n := 10) rfl dX9_outcome_9 ?_
    refine zj_iconstN_1 (n := 11) rfl dX9_outcome_10 ?_
    refine zj_icmp_ne (n := 14) (tgt := 18) rfl dX9_outcome_11 (by decide) (fun c11 => ?_) (fun c11 => ?_)
    · have d2 : zin z 2 = false := by
        cases e : zin z 2 with
        | false => rfl
        | true =>
          obtain ⟨j, hj, rfl⟩ := (zin_iff (by decide)).mp e
          have : j = 0 ∨ j = 1 := by omega
          rcases this with rfl | rfl
          · exact absurd rfl c6
          · exact absurd rfl c11
      refine zj_iconstN_0 (n := 19) rfl dX9_outcome_18 ?_
      refine zj_callS1 (n := 22) (a' := 0) (b' := 0) rfl dX9_outcome_19 zm_X9_72 (by decide) (Nat.le_of_ble_eq_true rfl) (Nat.le_of_ble_eq_true rfl) (Nat.le_of_ble_eq_true rfl) (Nat.le_of_ble_eq_true rfl) (jX9_needArgument (p := false) (fun q => by cases q) (fun _ => hx2 (by simp [a_outcome, c2, d2])))
    · have d2 : zin z 2 = true := by rw [c11]; decide
      obtain rfl : z = nI 1 := c11
      refine zj_iconstN_1 (n := 15) rfl dX9_outcome_14 ?_
      refine zj_goto (tgt := 19) dX9_outcome_15 (by decide) ?_
      refine zj_callS1 (n := 22) (a' := 0) (b' := 0) rfl dX9_outcome_19 zm_X9_72 (by decide) (Nat.le_of_ble_eq_true rfl) (Nat.le_of_ble_eq_true rfl) (Nat.le_of_ble_eq_true rfl) (Nat.le_of_ble_eq_true rfl) (jX9_needArgument (p := true) (fun _ => ?_) (fun q => by cases q))
      -- 
      refine zj_aload0 (n := 23) rfl dX9_outcome_22 ?_
      refine zj_getr (n := 26) (q := 105) rfl dX9_outcome_23 zf_X9_40 rfl (by decide) (by decide) rfl ?_
      refine zj_aload0 (n := 27) rfl dX9_outcome_26 ?_
      refine zj_getr (n := 30) (q := 0) rfl dX9_outcome_27 zf_X9_33 rfl (by decide) (by decide) rfl ?_
      refine zj_callV1 (n := 33) (a' := 0) (b' := 0) rfl dX9_outcome_30 zm_X9_209 (by decide) (by decide) rfl (Nat.le_of_ble_eq_true rfl) (Nat.le_of_ble_eq_true rfl) (Nat.le_of_ble_eq_true rfl) (Nat.le_of_ble_eq_true rfl) (jX0_hold hC.2.2.1 hR hW ?_)
      intro M2 hF2 hH2
      have hn10 := vord_le hW 0
      have hQ2 := hC.ofA hF2 (hH2.o (Or.inl rfl))
      refine zj_aload0 (n := 34) rfl dX9_outcome_33 ?_
      refine zj_getr (n := 37) (q := 105) rfl dX9_outcome_34 zf_X9_40 rfl (by decide) (by decide) rfl ?_
      refine zj_getr (n := 40) (q := 108) rfl dX9_outcome_37 zf_X9_212 rfl (by decide) (by decide) rfl ?_
      refine zj_aload0 (n := 41) rfl dX9_outcome_40 ?_
      refine zj_getr (n := 44) (q := 105) rfl dX9_outcome_41 zf_X9_40 rfl (by decide) (by decide) rfl ?_
      refine zj_getr (n := 47) (q := 108) rfl dX9_outcome_44 zf_X9_212 rfl (by decide) (by decide) rfl ?_
      refine zj_iconstN_0 (n := 48) rfl dX9_outcome_47 ?_
      refine zj_iload1 (n := 49) rfl dX9_outcome_48 ?_
      refine zj_callV2 (n := 52) (a' := 0) (b' := 0) rfl dX9_outcome_49 zm_X9_215 (by decide) (by decide) rfl (Nat.le_of_ble_eq_true rfl) (Nat.le_of_ble_eq_true rfl) (Nat.le_of_ble_eq_true rfl) (Nat.le_of_ble_eq_true rfl) (jX7_rowWith hH2.1.1 (show 0 < 4 by decide) ?_)
      rw [show zfo (vord v 0).1 (fun r => decide (M2.1 (108 + 1) (r * 4 + 0) = nI n)) = zfo (vord v 0).1 (fun k => decide ((vord v 0).2 k = n)) from zfo_congr (fun k hk => by rw [(hH2.1.2 k hk).1]; have hb := (vbidder hW hk).1; exact decide_eq_decide.mpr (nI_eq (by omega) (by omega)))]
      rcases ez : zfo (vord v 0).1 (fun k => decide ((vord v 0).2 k = n)) with _ | k
      · -- 
        refine zj_iload2 (n := 53) rfl dX9_outcome_52 ?_
        refine zj_ifN_ne (n := 56) (tgt := 60) rfl dX9_outcome_53 (by decide) (by omega) (fun _ => ?_) (fun h => absurd h (by decide))
        refine zj_iconstN_3 (n := 61) rfl dX9_outcome_60 ?_
        -- 
        refine zj_callV2 (n := 64) (a' := 0) (b' := 0) rfl dX9_outcome_61 zm_X9_126 (by decide) (by decide) rfl (Nat.le_of_ble_eq_true rfl) (Nat.le_of_ble_eq_true rfl) (Nat.le_of_ble_eq_true rfl) (Nat.le_of_ble_eq_true rfl) (jT_getM hH2.1.1.1 ?_)
        refine zj_ireturn dX9_outcome_64 rfl rfl ?_
        have h := h (by simp only [a_outcome, c2, d2, if_true]) _ hQ2
        simp only [a_outcome, c2, d2, if_true, xn_at (show n < 2 ^ 31 by omega), xn_at (show 1 < 2 ^ 31 by decide)] at h
        rw [show vout v n 1 = 0 by unfold vout; rw [if_neg (fun q => by rw [zfo_n q] at ez; cases ez)]] at h
        exact h
      · -- 
        refine zj_iload2 (n := 53) rfl dX9_outcome_52 ?_
        refine zj_ifN_ne (n := 56) (tgt := 60) rfl dX9_outcome_53 (by decide) (by omega) (fun _ => ?_) (fun h => absurd h (by decide))
        refine zj_iconstN_3 (n := 61) rfl dX9_outcome_60 ?_
        have hk9 := (zfo_s ez).2
        refine zj_callV2 (n := 64) (a' := 0) (b' := 0) rfl dX9_outcome_61 zm_X9_126 (by decide) (by decide) rfl (Nat.le_of_ble_eq_true rfl) (Nat.le_of_ble_eq_true rfl) (Nat.le_of_ble_eq_true rfl) (Nat.le_of_ble_eq_true rfl) (jT_get (e := if 0 < vunits v 0 k then vprice v 0 k else 0) hH2.1.1 hk9 (by decide) (hH2.2.2.1 k hk9) ?_)
        refine zj_ireturn dX9_outcome_64 rfl rfl ?_
        have h := h (by simp only [a_outcome, c2, d2, if_true]) _ hQ2
        simp only [a_outcome, c2, d2, if_true, xn_at (show n < 2 ^ 31 by omega), xn_at (show 1 < 2 ^ 31 by decide)] at h
        obtain ⟨z1, z2⟩ := zfo_s ez
        rw [show vout v n 1 = (if 0 < vunits v 0 k then vprice v 0 k else 0) by unfold vout; rw [z1, if_pos z2, if_neg (by decide)]; by_cases q : vunits v 0 k = 0; rw [if_pos q, if_neg (by omega)]; rw [if_neg q, if_pos (by omega)]] at h
        exact h
