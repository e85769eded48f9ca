/-! THE QUESTIONS THAT ANSWER A DOUBLE -/
def vball (v : zV) (k : Nat) : Int64 := zFor k (fun u a => a + (nI (v (202 + 11 * u + 3))).toInt64) 0
theorem vball_succ (v : zV) (k : Nat) : vball v (k + 1) = vball v k + (nI (v (202 + 11 * k + 3))).toInt64 := rfl
abbrev zAD := Nat × UInt64
def a_share (v : zV) (x : Int32) : zAD := if zin x (v 7) then (0, if vball v (v 7) = 0 then FP.dconst0 else FP.ddiv (FP.i2d (nI (v (202 + 11 * xn x + 3)))) (FP.l2d (vball v (v 7)))) else (1, FP.dconst0)
def vmsum (v : zV) (a k : Nat) : Nat := vsum (fun i => v (498 + 5 * (a + i) + 2)) k
def a_mean (v : zV) (x : Int32) : zAD := if zin2 x 1 40 then (if v 9 = 0 then (2, FP.dconst0) else (0, FP.ddiv (FP.i2d (nI (vmsum v (v 9 - min (xn x) (v 9)) (min (xn x) (v 9))))) (FP.i2d (nI (min (xn x) (v 9)))))) else (1, FP.dconst0)
def vxl (v : zV) (k : Nat) : UInt64 := zFor k (fun g a => FP.dadd a (FP.ddiv (FP.l2d (lN (v (268 + 23 * g + 5) * vloss v 0 g))) zE9)) FP.dconst0
theorem vxl_succ (v : zV) (k : Nat) : vxl v (k + 1) = FP.dadd (vxl v k) (FP.ddiv (FP.l2d (lN (v (268 + 23 * k + 5) * vloss v 0 k))) zE9) := rfl
def a_xloss (v : zV) : zAD := (0, vxl v (v 8))
theorem vxl_nn {v : zV} (hW : zWF v) : ∀ k, k ≤ v 8 → zNN (vxl v k) := by
  intro k
  induction k with
  | zero => intro _; exact zNN.zero
  | succ k ih =>
    intro h
    rw [vxl_succ]
    exact (ih (by omega)).add (zvar_n (by have h1 : v (268 + 23 * k + 5) * vloss v 0 k ≤ 9999 * 1000000000 := hW.offer (show k < v 8 by omega); omega))
theorem zlc0 {x : Int64} : lg_cmp x (lN 0) = 0 ↔ x = 0 := by
  unfold lg_cmp
  constructor
  · intro h
    split at h
    · cases h
    · split at h
      · rename_i h2; exact h2
      · cases h
  · intro h
    subst h
    decide
theorem zlne {x : Int64} (h : x ≠ 0) : x.toInt ≠ 0 := fun q => h (Int64.toInt_inj.mp (q.trans (by decide)))
theorem zmsum_le {v : zV} (hW : zWF v) {a : Nat} : ∀ k, a + k ≤ v 9 → vmsum v a k ≤ k * 9999 := by
  intro k hk
  exact vsum_bd (fun i hi => hW.hist (show a + i < v 9 by omega))
theorem zQd {a b : UInt64} {Q : Option Value → zM → Prop} {M : zM} (h : Q (some (.double a)) M) (e : a = b) : Q (some (.double b)) M := e ▸ h
theorem jX9_share {v : zV} {x : Int32} {Q : Option Value → zM → Prop} {X : String → zM → Prop} {M : zM} (hC : zCl M v) (hW : zWF v) (hx1 : (a_share v x).1 = 1 → X "java/lang/IndexOutOfBoundsException" M) (h : (a_share v x).1 = 0 → ∀ M', zQn M M' → Q (some (.double (a_share v x).2)) M') : zJ yX9_share cX9_share 5 (some .double) rX9_share Q X rX9_share.cells rX9_share.slots 0 (zEnt 5 [.ref 99, .int x]) [] M := by
  have hR := hC.1
  have h6 := hW.nN
  have h7 := hW.tN
  have h8 := hW.gN
  have h9 := hW.hN
  show zJ yX9_share cX9_share 5 (some .double) rX9_share Q X 1 6 0 [some (.ref 99), some (.int x), none, none, none] [] M
  refine zj_aload0 (n := 1) rfl dX9_share_0 ?_
  refine zj_iload1 (n := 2) rfl dX9_share_1 ?_
  refine zj_callV1 (n := 5) (a' := 0) (b' := 0) rfl dX9_share_2 zm_X9_139 (by decide) (by decide) rfl (Nat.le_of_ble_eq_true rfl) (Nat.le_of_ble_eq_true rfl) (Nat.le_of_ble_eq_true rfl) (Nat.le_of_ble_eq_true rfl) (jX9_needTenant hR (fun c2 => ?_) (fun c2 => hx1 (by simp [a_share, c2])))
  obtain ⟨n, hn, rfl⟩ := (zin_iff (by omega)).mp c2
  refine zj_lconstN_0 (n := 6) rfl dX9_share_5 ?_
  refine zj_lstore2 (n := 7) rfl dX9_share_6 rfl (Nat.le_of_ble_eq_true rfl) ?_
  refine zj_iconstN_0 (n := 8) rfl dX9_share_7 ?_
  refine zj_istore4 (n := 10) rfl dX9_share_8 rfl (Nat.le_of_ble_eq_true rfl) ?_
  refine zFor_rule (P := fun k (_ : Unit) => zJ yX9_share cX9_share 5 (some .double) rX9_share Q X 0 0 10 [some (.ref 99), some (.int (nI n)), some (.long (vball v k)), none, some (.int (nI k))] [] M) (n := v 7) (f := fun _ s => s) (s0 := ()) ?_ ?_
  · intro k _ hk9 hk
    refine zj_iload4 (n := 12) rfl dX9_share_10 ?_
    refine zj_aload0 (n := 13) rfl dX9_share_12 ?_
    refine zj_getr (n := 16) (q := 0) rfl dX9_share_13 zf_X9_33 rfl (by decide) (by decide) rfl ?_
    refine zj_getr (n := 19) (q := 3) rfl dX9_share_16 zf_X9_142 rfl (by decide) (by decide) rfl ?_
    refine zj_getiN (e := v 7) (n := 22) rfl dX9_share_19 zf_X9_95 rfl (by decide) (by decide) hR.t.1.2.2.2.1 ?_
    refine zj_icmpN_ge (n := 25) (tgt := 48) rfl dX9_share_22 (by decide) (by omega) (by omega) (fun c22 => by omega) (fun c22 => ?_)
    refine zj_lload2 (n := 26) rfl dX9_share_25 ?_
    refine zj_aload0 (n := 27) rfl dX9_share_26 ?_
    refine zj_getr (n := 30) (q := 0) rfl dX9_share_27 zf_X9_33 rfl (by decide) (by decide) rfl ?_
    refine zj_getr (n := 33) (q := 3) rfl dX9_share_30 zf_X9_142 rfl (by decide) (by decide) rfl ?_
    refine zj_iload4 (n := 35) rfl dX9_share_33 ?_
    refine zj_iconstN_3 (n := 36) rfl dX9_share_35 ?_
    refine zj_callV2 (n := 39) (a' := 0) (b' := 0) rfl dX9_share_36 zm_X9_126 (by decide) (by decide) rfl (Nat.le_of_ble_eq_true rfl) (Nat.le_of_ble_eq_true rfl) (Nat.le_of_ble_eq_true rfl) (Nat.le_of_ble_eq_true rfl) (jT_get hR.t.1 (by omega) (by decide) (hR.t.c (by omega) (by decide)) ?_)
    -- 
    refine zj_i2l (n := 40) rfl dX9_share_39 ?_
    refine zj_ladd (n := 41) rfl dX9_share_40 ?_
    refine zj_lstore2 (n := 42) rfl dX9_share_41 rfl (Nat.le_of_ble_eq_true rfl) ?_
    refine zj_iincN4 (n := 45) rfl dX9_share_42 rfl (Nat.le_of_ble_eq_true rfl) ?_
    refine zj_goto (tgt := 10) dX9_share_45 (by decide) ?_
    exact hk
  · skip
    refine zj_iload4 (n := 12) rfl dX9_share_10 ?_
    refine zj_aload0 (n := 13) rfl dX9_share_12 ?_
    refine zj_getr (n := 16) (q := 0) rfl dX9_share_13 zf_X9_33 rfl (by decide) (by decide) rfl ?_
    refine zj_getr (n := 19) (q := 3) rfl dX9_share_16 zf_X9_142 rfl (by decide) (by decide) rfl ?_
    refine zj_getiN (e := v 7) (n := 22) rfl dX9_share_19 zf_X9_95 rfl (by decide) (by decide) hR.t.1.2.2.2.1 ?_
    refine zj_icmpN_ge (n := 25) (tgt := 48) rfl dX9_share_22 (by decide) (by omega) (by omega) (fun c22 => ?_) (fun c22 => by omega)
    refine zj_lload2 (n := 49) rfl dX9_share_48 ?_
    refine zj_lconstN_0 (n := 50) rfl dX9_share_49 ?_
    refine zj_lcmp (n := 51) rfl dX9_share_50 ?_
    refine zj_if_ne (n := 54) (tgt := 58) rfl dX9_share_51 (by decide) (fun c51 => ?_) (fun c51 => ?_)
    · refine zj_aload0 (n := 59) rfl dX9_share_58 ?_
      refine zj_getr (n := 62) (q := 0) rfl dX9_share_59 zf_X9_33 rfl (by decide) (by decide) rfl ?_
      refine zj_getr (n := 65) (q := 3) rfl dX9_share_62 zf_X9_142 rfl (by decide) (by decide) rfl ?_
      refine zj_iload1 (n := 66) rfl dX9_share_65 ?_
      refine zj_iconstN_3 (n := 67) rfl dX9_share_66 ?_
      refine zj_callV2 (n := 70) (a' := 0) (b' := 0) rfl dX9_share_67 zm_X9_126 (by decide) (by decide) rfl (Nat.le_of_ble_eq_true rfl) (Nat.le_of_ble_eq_true rfl) (Nat.le_of_ble_eq_true rfl) (Nat.le_of_ble_eq_true rfl) (jT_get hR.t.1 (by omega) (by decide) (hR.t.c (by omega) (by decide)) ?_)
      -- 
      refine zj_i2d (n := 71) rfl dX9_share_70 ?_
      refine zj_lload2 (n := 72) rfl dX9_share_71 ?_
      refine zj_l2d (n := 73) rfl dX9_share_72 ?_
      refine zj_ddiv (n := 74) rfl dX9_share_73 (zdiv_il (zlne (fun q => c51 (zlc0.mpr q)))) ?_
      refine zj_dreturn dX9_share_74 rfl ?_
      have h := h (by simp only [a_share, c2, if_true]) _ hC.rf
      simp only [a_share, c2, if_true, xn_at (show n < 2 ^ 31 by omega)] at h
      rw [if_neg (fun q => c51 (zlc0.mpr q))] at h
      exact h
    · refine zj_dconst_0 (n := 55) rfl dX9_share_54 ?_
      refine zj_goto (tgt := 74) dX9_share_55 (by decide) ?_
      refine zj_dreturn dX9_share_74 rfl ?_
      have h := h (by simp only [a_share, c2, if_true]) _ hC.rf
      simp only [a_share, c2, if_true, xn_at (show n < 2 ^ 31 by omega)] at h
      rw [if_pos (zlc0.mp c51)] at h
      exact h
theorem jX9_meanPrice {v : zV} {x : Int32} {Q : Option Value → zM → Prop} {X : String → zM → Prop} {M : zM} (hC : zCl M v) (hW : zWF v) (hx1 : (a_mean v x).1 = 1 → X "java/lang/IllegalArgumentException" M) (hx2 : (a_mean v x).1 = 2 → X "java/util/NoSuchElementException" M) (h : (a_mean v x).1 = 0 → ∀ M', zQn M M' → Q (some (.double (a_mean v x).2)) M') : zJ yX9_meanPrice cX9_meanPrice 6 (some .double) rX9_meanPrice Q X rX9_meanPrice.cells rX9_meanPrice.slots 0 (zEnt 6 [.ref 99, .int x]) [] M := by
  have hR := hC.1
  have h6 := hW.nN
  have h7 := hW.tN
  have h8 := hW.gN
  have h9 := hW.hN
  show zJ yX9_meanPrice cX9_meanPrice 6 (some .double) rX9_meanPrice Q X 2 12 0 [some (.ref 99), some (.int x), none, none, none, none] [] M
  refine zj_iload1 (n := 1) rfl dX9_meanPrice_0 ?_
  refine zj_iconstN_1 (n := 2) rfl dX9_meanPrice_1 ?_
  refine zj_icmp_lt (n := 5) (tgt := 15) rfl dX9_meanPrice_2 (by decide) (fun c2 => ?_) (fun c2 => ?_)
  · refine zj_iconstN_0 (n := 16) rfl dX9_meanPrice_15 ?_
    refine zj_callS1 (n := 19) (a' := 1) (b' := 6) rfl dX9_meanPrice_16 zm_X9_72 (by decide) (Nat.le_of_ble_eq_true rfl) (Nat.le_of_ble_eq_true rfl) (Nat.le_of_ble_eq_true rfl) (Nat.le_of_ble_eq_true rfl) (jX9_needArgument (p := false) (fun q => by cases q) (fun _ => hx1 (by simp [a_mean, zin2_f1 (hi := 40) c2])))
  · refine zj_iload1 (n := 6) rfl dX9_meanPrice_5 ?_
    refine zj_bipushN (v := 40) (n := 8) rfl dX9_meanPrice_6 (by decide) ?_
    refine zj_icmp_gt (n := 11) (tgt := 15) rfl dX9_meanPrice_8 (by decide) (fun c8 => ?_) (fun c8 => ?_)
    · refine zj_iconstN_0 (n := 16) rfl dX9_meanPrice_15 ?_
      refine zj_callS1 (n := 19) (a' := 1) (b' := 6) rfl dX9_meanPrice_16 zm_X9_72 (by decide) (Nat.le_of_ble_eq_true rfl) (Nat.le_of_ble_eq_true rfl) (Nat.le_of_ble_eq_true rfl) (Nat.le_of_ble_eq_true rfl) (jX9_needArgument (p := false) (fun q => by cases q) (fun _ => hx1 (by simp [a_mean, zin2_f2 (lo := 1) c8])))
    · refine zj_iconstN_1 (n := 12) rfl dX9_meanPrice_11 ?_
      refine zj_goto (tgt := 16) dX9_meanPrice_12 (by decide) ?_
      refine zj_callS1 (n := 19) (a' := 1) (b' := 6) rfl dX9_meanPrice_16 zm_X9_72 (by decide) (Nat.le_of_ble_eq_true rfl) (Nat.le_of_ble_eq_true rfl) (Nat.le_of_ble_eq_true rfl) (Nat.le_of_ble_eq_true rfl) (jX9_needArgument (p := true) (fun _ => ?_) (fun q => by cases q))
      have d2 : zin2 x 1 40 = true := zin2_t c2 c8
      obtain ⟨n, hn1, hn2, rfl⟩ := (zin2_iff (by decide) (by decide)).mp d2
      refine zj_aload0 (n := 20) rfl dX9_meanPrice_19 ?_
      refine zj_callV0 (n := 23) (a' := 0) (b' := 0) rfl dX9_meanPrice_20 zm_X9_311 (by decide) (by decide) rfl (Nat.le_of_ble_eq_true rfl) (Nat.le_of_ble_eq_true rfl) (Nat.le_of_ble_eq_true rfl) (Nat.le_of_ble_eq_true rfl) (jX9_needHistory hR hW (fun h0 => ?_) (fun q => hx2 (by simp only [a_mean, d2, if_true]; rw [if_pos q])))
      refine zj_aload0 (n := 24) rfl dX9_meanPrice_23 ?_
      refine zj_getr (n := 27) (q := 0) rfl dX9_meanPrice_24 zf_X9_33 rfl (by decide) (by decide) rfl ?_
      refine zj_getr (n := 30) (q := 7) rfl dX9_meanPrice_27 zf_X9_302 rfl (by decide) (by decide) rfl ?_
      refine zj_getiN (e := v 9) (n := 33) rfl dX9_meanPrice_30 zf_X9_95 rfl (by decide) (by decide) hR.p.1.2.2.2.1 ?_
      refine zj_istore2 (n := 34) rfl dX9_meanPrice_33 rfl (Nat.le_of_ble_eq_true rfl) ?_
      refine zj_iload1 (n := 35) rfl dX9_meanPrice_34 ?_
      refine zj_iload2 (n := 36) rfl dX9_meanPrice_35 ?_
      refine zj_iminN (n := 39) rfl dX9_meanPrice_36 zm_X9_314 (by decide) (Nat.le_of_ble_eq_true rfl) (by omega) (by omega) ?_
      refine zj_istore3 (n := 40) rfl dX9_meanPrice_39 rfl (Nat.le_of_ble_eq_true rfl) ?_
      refine zj_iconstN_0 (n := 41) rfl dX9_meanPrice_40 ?_
      refine zj_istore4 (n := 43) rfl dX9_meanPrice_41 rfl (Nat.le_of_ble_eq_true rfl) ?_
      refine zj_iload2 (n := 44) rfl dX9_meanPrice_43 ?_
      refine zj_iload3 (n := 45) rfl dX9_meanPrice_44 ?_
      refine zj_isubN (n := 46) rfl dX9_meanPrice_45 (by omega) ?_
      refine zj_istore5 (n := 48) rfl dX9_meanPrice_46 rfl (Nat.le_of_ble_eq_true rfl) ?_
      refine zFor_rule (P := fun k (_ : Unit) => zJ yX9_meanPrice cX9_meanPrice 6 (some .double) rX9_meanPrice Q X 0 0 48 [some (.ref 99), some (.int (nI n)), some (.int (nI (v 9))), some (.int (nI (min n (v 9)))), some (.int (nI (vmsum v (v 9 - min n (v 9)) k))), some (.int (nI (v 9 - min n (v 9) + k)))] [] M) (n := min n (v 9)) (f := fun _ s => s) (s0 := ()) ?_ ?_
      · intro k _ hk9 hk
        have hms := zmsum_le hW (a := v 9 - min n (v 9)) k (by omega)
        refine zj_iload5 (n := 50) rfl dX9_meanPrice_48 ?_
        refine zj_iload2 (n := 51) rfl dX9_meanPrice_50 ?_
        refine zj_icmpN_ge (n := 54) (tgt := 78) rfl dX9_meanPrice_51 (by decide) (by omega) (by omega) (fun c51 => by omega) (fun c51 => ?_)
        refine zj_iload4 (n := 56) rfl dX9_meanPrice_54 ?_
        refine zj_aload0 (n := 57) rfl dX9_meanPrice_56 ?_
        refine zj_getr (n := 60) (q := 0) rfl dX9_meanPrice_57 zf_X9_33 rfl (by decide) (by decide) rfl ?_
        refine zj_getr (n := 63) (q := 7) rfl dX9_meanPrice_60 zf_X9_302 rfl (by decide) (by decide) rfl ?_
        refine zj_iload5 (n := 65) rfl dX9_meanPrice_63 ?_
        refine zj_iconstN_2 (n := 66) rfl dX9_meanPrice_65 ?_
        refine zj_callV2 (n := 69) (a' := 0) (b' := 0) rfl dX9_meanPrice_66 zm_X9_126 (by decide) (by decide) rfl (Nat.le_of_ble_eq_true rfl) (Nat.le_of_ble_eq_true rfl) (Nat.le_of_ble_eq_true rfl) (Nat.le_of_ble_eq_true rfl) (jT_get hR.p.1 (by omega) (by decide) (hR.p.c (by omega) (by decide)) ?_)
        refine zj_iaddN (n := 70) rfl dX9_meanPrice_69 ?_
        refine zj_istore4 (n := 72) rfl dX9_meanPrice_70 rfl (Nat.le_of_ble_eq_true rfl) ?_
        refine zj_iincN5 (n := 75) rfl dX9_meanPrice_72 rfl (Nat.le_of_ble_eq_true rfl) ?_
        refine zj_goto (tgt := 48) dX9_meanPrice_75 (by decide) ?_
        exact hk
      · skip
        have hms := zmsum_le hW (a := v 9 - min n (v 9)) (min n (v 9)) (by omega)
        refine zj_iload5 (n := 50) rfl dX9_meanPrice_48 ?_
        refine zj_iload2 (n := 51) rfl dX9_meanPrice_50 ?_
        refine zj_icmpN_ge (n := 54) (tgt := 78) rfl dX9_meanPrice_51 (by decide) (by omega) (by omega) (fun c51 => ?_) (fun c51 => by omega)
        refine zj_iload3 (n := 79) rfl dX9_meanPrice_78 ?_
        refine zj_ifN_ne (n := 82) (tgt := 86) rfl dX9_meanPrice_79 (by decide) (by omega) (fun c79 => ?_) (fun c79 => by omega)
        refine zj_iload4 (n := 88) rfl dX9_meanPrice_86 ?_
        refine zj_i2d (n := 89) rfl dX9_meanPrice_88 ?_
        refine zj_iload3 (n := 90) rfl dX9_meanPrice_89 ?_
        refine zj_i2d (n := 91) rfl dX9_meanPrice_90 ?_
        refine zj_ddiv (n := 92) rfl dX9_meanPrice_91 (zdiv_ii (by rw [nI_toInt (by omega)]; omega)) ?_
        refine zj_dreturn dX9_meanPrice_92 rfl ?_
        have e : a_mean v (nI n) = (0, FP.ddiv (FP.i2d (nI (vmsum v (v 9 - min n (v 9)) (min n (v 9))))) (FP.i2d (nI (min n (v 9))))) := by
          simp only [a_mean, d2, if_true, xn_at (show n < 2 ^ 31 by omega)]
          rw [if_neg (by omega)]
        rw [e] at h
        exact h rfl _ hC.rf
theorem jX9_expectedLoss {v : zV} {Q : Option Value → zM → Prop} {X : String → zM → Prop} {M : zM} (hC : zCl M v) (hW : zWF v) (h : (a_xloss v).1 = 0 → ∀ M', zQn M M' → Q (some (.double (a_xloss v).2)) M') : zJ yX9_expectedLoss cX9_expectedLoss 4 (some .double) rX9_expectedLoss Q X rX9_expectedLoss.cells rX9_expectedLoss.slots 0 (zEnt 4 [.ref 99]) [] M := by
  have hR := hC.1
  have h6 := hW.nN
  have h7 := hW.tN
  have h8 := hW.gN
  have h9 := hW.hN
  show zJ yX9_expectedLoss cX9_expectedLoss 4 (some .double) rX9_expectedLoss Q X 0 0 0 [some (.ref 99), none, none, none] [] M
  refine zj_dconst_0 (n := 1) rfl dX9_expectedLoss_0 ?_
  refine zj_dstore1 (n := 2) rfl dX9_expectedLoss_1 rfl (Nat.le_of_ble_eq_true rfl) ?_
  refine zj_iconstN_0 (n := 3) rfl dX9_expectedLoss_2 ?_
  refine zj_istore3 (n := 4) rfl dX9_expectedLoss_3 rfl (Nat.le_of_ble_eq_true rfl) ?_
  refine zFor_rule (P := fun k (_ : Unit) => ∀ L, (∀ c, c ≠ 107 → L c = M.2.1 c) → zJ yX9_expectedLoss cX9_expectedLoss 4 (some .double) rX9_expectedLoss Q X 0 0 4 [some (.ref 99), some (.double (vxl v k)), none, some (.int (nI k))] [] (M.1, L, M.2.2)) (n := v 8) (f := fun _ s => s) (s0 := ()) ?_ ?_ M.2.1 (fun _ _ => rfl)
  · intro k _ hk9 hk L hL
    refine zj_iload3 (n := 5) rfl dX9_expectedLoss_4 ?_
    refine zj_aload0 (n := 6) rfl dX9_expectedLoss_5 ?_
    refine zj_getr (n := 9) (q := 0) rfl dX9_expectedLoss_6 zf_X9_33 rfl (by decide) (by decide) rfl ?_
    refine zj_getr (n := 12) (q := 5) rfl dX9_expectedLoss_9 zf_X9_91 rfl (by decide) (by decide) rfl ?_
    refine zj_getiN (e := v 8) (n := 15) rfl dX9_expectedLoss_12 zf_X9_95 rfl (by decide) (by decide) (show zRg (M.1, L, M.2.2) 0 v from hC.1.cg (fun _ _ _ => rfl)).g.1.2.2.2.1 ?_
    refine zj_icmpN_ge (n := 18) (tgt := 38) rfl dX9_expectedLoss_15 (by decide) (by omega) (by omega) (fun c15 => by omega) (fun c15 => ?_)
    refine zj_dload1 (n := 19) rfl dX9_expectedLoss_18 ?_
    refine zj_aload0 (n := 20) rfl dX9_expectedLoss_19 ?_
    refine zj_iload3 (n := 21) rfl dX9_expectedLoss_20 ?_
    refine zj_iconstN_0 (n := 22) rfl dX9_expectedLoss_21 ?_
    refine zj_callV2 (n := 25) (a' := 0) (b' := 0) rfl dX9_expectedLoss_22 zm_X9_189 (by decide) (by decide) rfl (Nat.le_of_ble_eq_true rfl) (Nat.le_of_ble_eq_true rfl) (Nat.le_of_ble_eq_true rfl) (Nat.le_of_ble_eq_true rfl) (jX9_valueAtRisk ((hC.ofL hL).cl hC) hW hk9 (by decide) ?_)
    intro L2 hL2
    refine zj_l2d (n := 26) rfl dX9_expectedLoss_25 ?_
    refine zj_ldc2d (n := 29) rfl dX9_expectedLoss_26 zc_X9_193 ?_
    refine zj_ddiv (n := 30) rfl dX9_expectedLoss_29 (show vf_n64 (FP.ddiv _ zE9) from (zvar_n (by have h1 : v (268 + 23 * k + 5) * vloss v 0 k ≤ 9999 * 1000000000 := hW.offer hk9; omega)).n) ?_
    refine zj_dadd (n := 31) rfl dX9_expectedLoss_30 ((vxl_nn hW k (by omega)).add (show zNN (FP.ddiv _ zE9) from (zvar_n (by have h1 : v (268 + 23 * k + 5) * vloss v 0 k ≤ 9999 * 1000000000 := hW.offer hk9; omega)))).n ?_
    refine zj_dstore1 (n := 32) rfl dX9_expectedLoss_31 rfl (Nat.le_of_ble_eq_true rfl) ?_
    refine zj_iincN3 (n := 35) rfl dX9_expectedLoss_32 rfl (Nat.le_of_ble_eq_true rfl) ?_
    refine zj_goto (tgt := 4) dX9_expectedLoss_35 (by decide) ?_
    exact hk L2 (fun c hc => (hL2 c hc).trans (hL c hc))
  · intro L hL
    refine zj_iload3 (n := 5) rfl dX9_expectedLoss_4 ?_
    refine zj_aload0 (n := 6) rfl dX9_expectedLoss_5 ?_
    refine zj_getr (n := 9) (q := 0) rfl dX9_expectedLoss_6 zf_X9_33 rfl (by decide) (by decide) rfl ?_
    refine zj_getr (n := 12) (q := 5) rfl dX9_expectedLoss_9 zf_X9_91 rfl (by decide) (by decide) rfl ?_
    refine zj_getiN (e := v 8) (n := 15) rfl dX9_expectedLoss_12 zf_X9_95 rfl (by decide) (by decide) (show zRg (M.1, L, M.2.2) 0 v from hC.1.cg (fun _ _ _ => rfl)).g.1.2.2.2.1 ?_
    refine zj_icmpN_ge (n := 18) (tgt := 38) rfl dX9_expectedLoss_15 (by decide) (by omega) (by omega) (fun c15 => ?_) (fun c15 => by omega)
    refine zj_dload1 (n := 39) rfl dX9_expectedLoss_38 ?_
    exact zj_dreturn dX9_expectedLoss_39 rfl (h rfl _ (hC.ofL hL))
