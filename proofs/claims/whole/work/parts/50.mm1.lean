/-! THE MODEL's changes -/
def zMu (M : zM) (un : Nat) (uv : Nat → zV) : Prop := un ≤ 8 ∧ M.1 118 27 = nI un ∧ ∀ i, i < un → ∀ j, j < 698 → M.1 128 (698 * i + j) = nI (uv i j)
def zMmI (a j : Nat) : Bool := zQmI a j || a == 119 || a == 128 || (a == 118 && j == 27)
def zMm (M M' : zM) : Prop := (∀ a j, zMmI a j = false → M'.1 a j = M.1 a j) ∧ (∀ c j, c ≠ 121 → ¬ (c = 118 ∧ j = 14) → M'.2.1 c j = M.2.1 c j) ∧ M'.2.2 = M.2.2
theorem zMm.rf {M : zM} : zMm M M := ⟨fun _ _ _ => rfl, fun _ _ _ _ => rfl, rfl⟩
theorem zMm.tr {M M1 M2 : zM} (h : zMm M M1) (h2 : zMm M1 M2) : zMm M M2 := ⟨fun a j hj => (h2.1 a j hj).trans (h.1 a j hj), fun c j h1 h3 => (h2.2.1 c j h1 h3).trans (h.2.1 c j h1 h3), h2.2.2.trans h.2.2⟩
theorem zMm.ofQ {M M' : zM} (h : zQm M M') : zMm M M' := ⟨fun a j hj => h.1 a j (by unfold zMmI at hj; simp only [Bool.or_eq_false_iff] at hj; exact hj.1.1.1), h.2.1, h.2.2⟩
theorem zMm.ofS {M M' : zM} (h : zSq 119 M M') : zMm M M' := ⟨fun a j hj => h.1 a j (by
  unfold zMmI zQmI at hj
  simp only [Bool.or_eq_false_iff, Bool.and_eq_false_iff] at hj
  obtain ⟨⟨⟨⟨⟨⟨x1, x2⟩, x3⟩, x4⟩, x5⟩, x6⟩, x7⟩ := hj
  unfold zSqI
  rw [x1, x5]
  rcases x3 with q | q
  · rw [q]; rfl
  · rw [q.2]; simp), fun c j h1 h2 => h.2.1 c j h2 h1, h.2.2⟩
theorem zMm.td {M M' : zM} {d : Nat} (h : zMm M M') (hd : M.1 118 4 = nI d) : M'.1 118 4 = nI d := by rw [h.1 118 4 rfl]; exact hd
theorem zMm.row {M M1 : zM} {k j : Nat} {x : Int32} (h : zMm M M1) (hk : zMmI k j = true) : zMm M (zU M1.1 k j x, M1.2) := h.tr ⟨fun a i hai => by
  dsimp only
  rw [zUx (fun e => by rw [e.1, e.2, hk] at hai; cases hai)], fun _ _ _ _ => rfl, rfl⟩
theorem zMu.q {M M' : zM} {un : Nat} {uv : Nat → zV} (h : zMu M un uv) (e1 : M'.1 118 27 = M.1 118 27) (e2 : M'.1 128 = M.1 128) : zMu M' un uv := ⟨h.1, e1.trans h.2.1, fun i hi j hj => by rw [e2]; exact h.2.2 i hi j hj⟩
theorem zMu.ofQ {M M' : zM} {un : Nat} {uv : Nat → zV} (h : zMu M un uv) (hq : zQm M M') : zMu M' un uv := h.q (hq.1 118 27 rfl) (funext fun j => hq.1 128 j rfl)
theorem zMu.ofS {M M' : zM} {un : Nat} {uv : Nat → zV} (h : zMu M un uv) (hq : zSq 119 M M') : zMu M' un uv := h.q (hq.1 118 27 rfl) (funext fun j => hq.1 128 j rfl)
theorem jX10_remember_t {n : Nat} {v : zV} {Q : Option Value → zM → Prop} {X : String → zM → Prop} {M : zM} (hA : zRA M 119 v) (hn : M.1 118 27 = nI n) (hn8 : n < 8) (h : ∀ M', (∀ a, a ≠ 128 → a ≠ 118 → M'.1 a = M.1 a) → (∀ j, j ≠ 27 → M'.1 118 j = M.1 118 j) → M'.2 = M.2 → M'.1 118 27 = nI (n + 1) → (∀ j, j < 698 → M'.1 128 (698 * n + j) = nI (v j)) → (∀ i, i < 698 * n → M'.1 128 i = M.1 128 i) → Q none M') : zJ yX10_remember cX10_remember 2 none rX10_remember Q X 0 0 52 [some (.ref 118), none] [] M := by
  refine zj_iconstN_0 (n := 53) rfl dX10_remember_52 ?_
  refine zj_istore1 (n := 54) rfl dX10_remember_53 rfl (Nat.le_of_ble_eq_true rfl) ?_
  refine zFor_rule (P := fun k (_ : Unit) => ∀ M2, (∀ a, a ≠ 128 → M2.1 a = M.1 a) → M2.2 = M.2 → (∀ j, j < k → M2.1 128 (698 * n + j) = nI (v j)) → (∀ i, i < 698 * n → M2.1 128 i = M.1 128 i) → zJ yX10_remember cX10_remember 2 none rX10_remember Q X 0 0 54 [some (.ref 118), some (.int (nI k))] [] M2) (n := 698) (f := fun _ s => s) (s0 := ()) ?_ ?_ M (fun _ _ => rfl) rfl (fun j hj => absurd hj (Nat.not_lt_zero j)) (fun _ _ => rfl)
  · intro k _ hk9 hk M2 hF2 hL2 hr2 hs2
    refine zj_iload1 (n := 55) rfl dX10_remember_54 ?_
    refine zj_sipushN (v := 698) (n := 58) rfl dX10_remember_55 (by decide) ?_
    refine zj_icmpN_ge (n := 61) (tgt := 88) rfl dX10_remember_58 (by decide) (by omega) (by omega) (fun c58 => by omega) (fun c58 => ?_)
    refine zj_aload0 (n := 62) rfl dX10_remember_61 ?_
    refine zj_getr (n := 65) (q := 128) rfl dX10_remember_62 zf_X10_56 rfl (by decide) (by decide) rfl ?_
    refine zj_sipushN (v := 698) (n := 68) rfl dX10_remember_65 (by decide) ?_
    refine zj_aload0 (n := 69) rfl dX10_remember_68 ?_
    refine zj_getiN (e := n) (n := 72) rfl dX10_remember_69 zf_X10_470 rfl (by decide) (by decide) (by rw [hF2 118 (by decide)]; exact hn) ?_
    refine zj_imulN (n := 73) rfl dX10_remember_72 ?_
    refine zj_iload1 (n := 74) rfl dX10_remember_73 ?_
    refine zj_iaddN (n := 75) rfl dX10_remember_74 ?_
    refine zj_aload0 (n := 76) rfl dX10_remember_75 ?_
    refine zj_getr (n := 79) (q := 119) rfl dX10_remember_76 zf_X10_17 rfl (by decide) (by decide) rfl ?_
    refine zj_iload1 (n := 80) rfl dX10_remember_79 ?_
    refine zj_ialoadN (e := v k) (n := 81) rfl dX10_remember_80 (by decide) (by decide) (by rw [show zLen 119 = 698 from rfl]; omega) (by rw [hF2 119 (by decide)]; exact hA.2.2 k hk9) ?_
    refine zj_iastoreN (n := 82) rfl dX10_remember_81 (by decide) (by decide) (by rw [show zLen 128 = 5584 from rfl]; omega) ?_
    refine zj_iincN1 (n := 85) rfl dX10_remember_82 rfl (Nat.le_of_ble_eq_true rfl) ?_
    refine zj_goto (tgt := 54) dX10_remember_85 (by decide) ?_
    exact hk _ (fun a ha => by dsimp only; rw [zU_off ha]; exact hF2 a ha) hL2 (fun j hj => by
      dsimp only
      by_cases e : j = k
      · subst e; rw [zU_eq]
      · rw [zU_nj (by omega)]; exact hr2 j (by omega)) (fun i hi => by dsimp only; rw [zU_nj (by omega)]; exact hs2 i hi)
  · intro M2 hF2 hL2 hr2 hs2
    refine zj_iload1 (n := 55) rfl dX10_remember_54 ?_
    refine zj_sipushN (v := 698) (n := 58) rfl dX10_remember_55 (by decide) ?_
    refine zj_icmpN_ge (n := 61) (tgt := 88) rfl dX10_remember_58 (by decide) (by omega) (by omega) (fun c58 => ?_) (fun c58 => by omega)
    refine zj_aload0 (n := 89) rfl dX10_remember_88 ?_
    refine zj_dupr (n := 90) rfl dX10_remember_89 ?_
    refine zj_getiN (e := n) (n := 93) rfl dX10_remember_90 zf_X10_470 rfl (by decide) (by decide) (by rw [hF2 118 (by decide)]; exact hn) ?_
    refine zj_iconstN_1 (n := 94) rfl dX10_remember_93 ?_
    refine zj_iaddN (n := 95) rfl dX10_remember_94 ?_
    refine zj_puti (n := 98) rfl dX10_remember_95 zp_X10_470 rfl (by decide) (by decide) ?_
    exact zj_return dX10_remember_98 rfl (h (zU M2.1 118 27 (nI (n + 1)), M2.2) (fun a h1 h2 => by dsimp only; rw [zU_off h2]; exact hF2 a h1) (fun j hj => by dsimp only; rw [zU_nj hj, hF2 118 (by decide)]) hL2 (by dsimp only; exact zU_eq) (fun j hj => by dsimp only; rw [zU_ne (by decide)]; exact hr2 j hj) (fun i hi => by dsimp only; rw [zU_ne (by decide)]; exact hs2 i hi))
theorem jX10_remember {un : Nat} {uv : Nat → zV} {v : zV} {Q : Option Value → zM → Prop} {X : String → zM → Prop} {M : zM} (hA : zRA M 119 v) (hU : zMu M un uv) (h : ∀ M', (∀ a, a ≠ 128 → a ≠ 118 → M'.1 a = M.1 a) → (∀ j, j ≠ 27 → M'.1 118 j = M.1 118 j) → M'.2 = M.2 → zMu M' (vkN un) (vkU un uv v) → Q none M') : zJ yX10_remember cX10_remember 2 none rX10_remember Q X rX10_remember.cells rX10_remember.slots 0 (zEnt 2 [.ref 118]) [] M := by
  obtain ⟨hu8, hun, hur⟩ := hU
  show zJ yX10_remember cX10_remember 2 none rX10_remember Q X 0 0 0 [some (.ref 118), none] [] M
  refine zj_aload0 (n := 1) rfl dX10_remember_0 ?_
  refine zj_getiN (e := un) (n := 4) rfl dX10_remember_1 zf_X10_470 rfl (by decide) (by decide) hun ?_
  refine zj_bipushN (v := 8) (n := 6) rfl dX10_remember_4 (by decide) ?_
  refine zj_icmpN_ne (n := 9) (tgt := 52) rfl dX10_remember_6 (by decide) (by omega) (by omega) (fun c6 => ?_) (fun c6 => ?_)
  · refine zj_keep [true, false] ?_
    exact jX10_remember_t hA hun (by omega) (fun M' a1 a2 a3 a4 a5 a6 => h M' a1 a2 a3 ⟨by unfold vkN; split <;> omega, by rw [a4]; unfold vkN; rw [if_neg c6], fun i hi j hj => by
      unfold vkU
      unfold vkN at hi
      rw [if_neg c6] at hi ⊢
      by_cases q : i < un
      · rw [if_pos q, a6 _ (by omega)]; exact hur i q j hj
      · rw [if_neg q, show i = un by omega]; exact a5 j hj⟩)
  · refine zj_sipushN (v := 698) (n := 12) rfl dX10_remember_9 (by decide) ?_
    refine zj_istore1 (n := 13) rfl dX10_remember_12 rfl (Nat.le_of_ble_eq_true rfl) ?_
    refine zFor_rule (P := fun k (_ : Unit) => ∀ M2, (∀ a, a ≠ 128 → M2.1 a = M.1 a) → M2.2 = M.2 → (∀ i, M2.1 128 i = if i < k then M.1 128 (698 + i) else M.1 128 i) → zJ yX10_remember cX10_remember 2 none rX10_remember Q X 0 0 13 [some (.ref 118), some (.int (nI (698 + k)))] [] M2) (n := 4886) (f := fun _ s => s) (s0 := ()) ?_ ?_ M (fun _ _ => rfl) rfl (fun i => by rw [if_neg (Nat.not_lt_zero i)])
    · intro k _ hk9 hk M2 hF2 hL2 hr2
      refine zj_iload1 (n := 14) rfl dX10_remember_13 ?_
      refine zj_sipushN (v := 5584) (n := 17) rfl dX10_remember_14 (by decide) ?_
      refine zj_icmpN_ge (n := 20) (tgt := 42) rfl dX10_remember_17 (by decide) (by omega) (by omega) (fun c17 => by omega) (fun c17 => ?_)
      refine zj_aload0 (n := 21) rfl dX10_remember_20 ?_
      refine zj_getr (n := 24) (q := 128) rfl dX10_remember_21 zf_X10_56 rfl (by decide) (by decide) rfl ?_
      refine zj_iload1 (n := 25) rfl dX10_remember_24 ?_
      refine zj_sipushN (v := 698) (n := 28) rfl dX10_remember_25 (by decide) ?_
      refine zj_isubN (n := 29) rfl dX10_remember_28 (by omega) ?_
      refine zj_aload0 (n := 30) rfl dX10_remember_29 ?_
      refine zj_getr (n := 33) (q := 128) rfl dX10_remember_30 zf_X10_56 rfl (by decide) (by decide) rfl ?_
      refine zj_iload1 (n := 34) rfl dX10_remember_33 ?_
      refine zj_ialoadV (n := 35) rfl dX10_remember_34 (by decide) (by decide) (by rw [show zLen 128 = 5584 from rfl]; omega) ?_
      refine zj_iastoreN (n := 36) rfl dX10_remember_35 (by decide) (by decide) (by rw [show zLen 128 = 5584 from rfl]; omega) ?_
      refine zj_iincN1 (n := 39) rfl dX10_remember_36 rfl (Nat.le_of_ble_eq_true rfl) ?_
      refine zj_goto (tgt := 13) dX10_remember_39 (by decide) ?_
      exact hk _ (fun a ha => by dsimp only; rw [zU_off ha]; exact hF2 a ha) hL2 (fun i => by
        dsimp only
        rw [show 698 + k - 698 = k by omega]
        by_cases e : i = k
        · subst e; rw [zU_eq, hr2 (698 + i), if_neg (by omega), if_pos (by omega)]
        · rw [zU_nj e, hr2 i]
          by_cases q : i < k
          · rw [if_pos q, if_pos (by omega)]
          · rw [if_neg q, if_neg (by omega)])
    · intro M2 hF2 hL2 hr2
      refine zj_iload1 (n := 14) rfl dX10_remember_13 ?_
      refine zj_sipushN (v := 5584) (n := 17) rfl dX10_remember_14 (by decide) ?_
      refine zj_icmpN_ge (n := 20) (tgt := 42) rfl dX10_remember_17 (by decide) (by omega) (by omega) (fun c17 => ?_) (fun c17 => by omega)
      refine zj_aload0 (n := 43) rfl dX10_remember_42 ?_
      refine zj_dupr (n := 44) rfl dX10_remember_43 ?_
      refine zj_getiN (e := un) (n := 47) rfl dX10_remember_44 zf_X10_470 rfl (by decide) (by decide) (by rw [hF2 118 (by decide)]; exact hun) ?_
      refine zj_iconstN_1 (n := 48) rfl dX10_remember_47 ?_
      refine zj_isubN (n := 49) rfl dX10_remember_48 (by omega) ?_
      refine zj_puti (n := 52) rfl dX10_remember_49 zp_X10_470 rfl (by decide) (by decide) ?_
      refine zj_keep [true, false] ?_
      exact jX10_remember_t (n := un - 1) (v := v) ⟨by dsimp only; rw [hL2]; exact hA.1, hA.2.1, fun j hj => by dsimp only; rw [zU_ne (by decide), hF2 119 (by decide)]; exact hA.2.2 j hj⟩ (by dsimp only; exact zU_eq) (by omega) (fun M' a1 a2 a3 a4 a5 a6 => h M' (fun a h1 h2 => by rw [a1 a h1 h2]; dsimp only; rw [zU_off h2, hF2 a h1]) (fun j hj => by rw [a2 j hj]; dsimp only; rw [zU_nj hj, hF2 118 (by decide)]) (a3.trans hL2) ⟨by unfold vkN; split <;> omega, by rw [a4]; unfold vkN; rw [if_pos c6]; exact congrArg nI (by omega), fun i hi j hj => by
        unfold vkU
        unfold vkN at hi
        rw [if_pos c6] at hi ⊢
        by_cases q : i < 7
        · rw [if_pos q, a6 _ (by omega)]
          dsimp only
          rw [zU_ne (by decide), hr2, if_pos (by omega), show 698 + (698 * i + j) = 698 * (i + 1) + j by omega]
          exact hur (i + 1) (by omega) j hj
        · rw [if_neg q, show i = un - 1 by omega]; exact a5 j hj⟩)
def a_undo (un : Nat) : zA := if un = 0 then (1, nI 0) else (0, nI (un - 1))
theorem jX10_undo {v : zV}  {un : Nat} {uv : Nat → zV} {Q : Option Value → zM → Prop} {X : String → zM → Prop} {M : zM} (hA : zRA M 119 v) (hW : zWF v) (hd : M.1 118 4 = nI 0) (hU : zMu M un uv) (h : ∀ M', zMm M M' → M'.1 118 0 = nI (a_undo un).1 → zRA M' 119 (if un = 0 then (v, un, uv) else (uv (un - 1), un - 1, uv)).1 → zMu M' (if un = 0 then (v, un, uv) else (uv (un - 1), un - 1, uv)).2.1 (if un = 0 then (v, un, uv) else (uv (un - 1), un - 1, uv)).2.2 → Q (some (.int (a_undo un).2)) M') : zJ yX10_undo cX10_undo 2 (some .int) rX10_undo Q X rX10_undo.cells rX10_undo.slots 0 (zEnt 2 [.ref 118]) [] M := by
  have h6 := hW.nN
  have h7 := hW.tN
  have h8 := hW.gN
  have h9 := hW.hN
  obtain ⟨hu8, hun, hur⟩ := hU
  show zJ yX10_undo cX10_undo 2 (some .int) rX10_undo Q X 0 0 0 [some (.ref 118), none] [] M
  refine zj_aload0 (n := 1) rfl dX10_undo_0 ?_
  refine zj_aload0 (n := 2) rfl dX10_undo_1 ?_
  refine zj_getiN (e := un) (n := 5) rfl dX10_undo_2 zf_X10_470 rfl (by decide) (by decide) hun ?_
  refine zj_ifN_le (n := 8) (tgt := 12) rfl dX10_undo_5 (by decide) (by omega) (fun c5 => ?_) (fun c5 => ?_)
  · refine zj_iconstN_0 (n := 13) rfl dX10_undo_12 ?_
    refine zj_callV1 (n := 16) (a' := 0) (b' := 0) rfl dX10_undo_13 zm_X10_216 (by decide) (by decide) rfl (Nat.le_of_ble_eq_true rfl) (Nat.le_of_ble_eq_true rfl) (Nat.le_of_ble_eq_true rfl) (Nat.le_of_ble_eq_true rfl) (jX10_passesQ (p := false) ?_)
    intro M1 hQ1 hF1 hL1 h118 ht1
    have hA1 := hQ1.ra hA
    have hd1 := hQ1.td hd
    rw [show zb false = nI 0 from rfl]
    refine zj_ifN_ne (n := 19) (tgt := 21) rfl dX10_undo_16 (by decide) (by omega) (fun h => absurd h (by decide)) (fun _ => ?_)
    refine zj_iconstN_0 (n := 20) rfl dX10_undo_19 ?_
    refine zj_ireturn dX10_undo_20 rfl rfl ?_
    unfold a_undo at h
    rw [if_pos c5, if_pos c5] at h
    exact h M1 (zMm.ofQ hQ1) (by rw [ht1]; rfl) hA1 (zMu.ofQ ⟨hu8, hun, hur⟩ hQ1)
  · refine zj_iconstN_1 (n := 9) rfl dX10_undo_8 ?_
    refine zj_goto (tgt := 13) dX10_undo_9 (by decide) ?_
    refine zj_callV1 (n := 16) (a' := 0) (b' := 0) rfl dX10_undo_13 zm_X10_216 (by decide) (by decide) rfl (Nat.le_of_ble_eq_true rfl) (Nat.le_of_ble_eq_true rfl) (Nat.le_of_ble_eq_true rfl) (Nat.le_of_ble_eq_true rfl) (jX10_passesQ (p := true) ?_)
    intro M1 hQ1 hF1 hL1 h118 ht1
    have hA1 := hQ1.ra hA
    have hd1 := hQ1.td hd
    rw [show zb true = nI 1 from rfl]
    refine zj_ifN_ne (n := 19) (tgt := 21) rfl dX10_undo_16 (by decide) (by omega) (fun _ => ?_) (fun h => absurd h (by decide))
    refine zj_aload0 (n := 22) rfl dX10_undo_21 ?_
    refine zj_dupr (n := 23) rfl dX10_undo_22 ?_
    refine zj_getiN (e := un) (n := 26) rfl dX10_undo_23 zf_X10_470 rfl (by decide) (by decide) (by rw [hQ1.1 118 27 rfl]; exact hun) ?_
    refine zj_iconstN_1 (n := 27) rfl dX10_undo_26 ?_
    refine zj_isubN (n := 28) rfl dX10_undo_27 (by omega) ?_
    refine zj_puti (n := 31) rfl dX10_undo_28 zp_X10_470 rfl (by decide) (by decide) ?_
    have hun0 : 0 < un := c5
    refine zj_iconstN_0 (n := 32) rfl dX10_undo_31 ?_
    refine zj_istore1 (n := 33) rfl dX10_undo_32 rfl (Nat.le_of_ble_eq_true rfl) ?_
    refine zFor_rule (P := fun k (_ : Unit) => ∀ M2, (∀ a, a ≠ 119 → M2.1 a = (zU M1.1 118 27 (nI (un - 1)), M1.2).1 a) → M2.2 = M1.2 → (∀ j, j < k → M2.1 119 j = nI (uv (un - 1) j)) → M2.1 118 27 = nI (un - 1) → zJ yX10_undo cX10_undo 2 (some .int) rX10_undo Q X 0 0 33 [some (.ref 118), some (.int (nI k))] [] M2) (n := 698) (f := fun _ s => s) (s0 := ()) ?_ ?_ _ (fun _ _ => rfl) rfl (fun j hj => absurd hj (Nat.not_lt_zero j)) (by dsimp only; exact zU_eq)
    · intro k _ hk9 hk M2 hF2 hL2 hr2 hun2
      refine zj_iload1 (n := 34) rfl dX10_undo_33 ?_
      refine zj_sipushN (v := 698) (n := 37) rfl dX10_undo_34 (by decide) ?_
      refine zj_icmpN_ge (n := 40) (tgt := 67) rfl dX10_undo_37 (by decide) (by omega) (by omega) (fun c37 => by omega) (fun c37 => ?_)
      refine zj_aload0 (n := 41) rfl dX10_undo_40 ?_
      refine zj_getr (n := 44) (q := 119) rfl dX10_undo_41 zf_X10_17 rfl (by decide) (by decide) rfl ?_
      refine zj_iload1 (n := 45) rfl dX10_undo_44 ?_
      refine zj_aload0 (n := 46) rfl dX10_undo_45 ?_
      refine zj_getr (n := 49) (q := 128) rfl dX10_undo_46 zf_X10_56 rfl (by decide) (by decide) rfl ?_
      refine zj_sipushN (v := 698) (n := 52) rfl dX10_undo_49 (by decide) ?_
      refine zj_aload0 (n := 53) rfl dX10_undo_52 ?_
      refine zj_getiN (e := un - 1) (n := 56) rfl dX10_undo_53 zf_X10_470 rfl (by decide) (by decide) hun2 ?_
      refine zj_imulN (n := 57) rfl dX10_undo_56 ?_
      refine zj_iload1 (n := 58) rfl dX10_undo_57 ?_
      refine zj_iaddN (n := 59) rfl dX10_undo_58 ?_
      refine zj_ialoadN (e := uv (un - 1) k) (n := 60) rfl dX10_undo_59 (by decide) (by decide) (by rw [show zLen 128 = 5584 from rfl]; omega) (by rw [hF2 128 (by decide)]; dsimp only; rw [zU_ne (by decide), hQ1.1 128 _ rfl]; exact hur (un - 1) (by omega) k hk9) ?_
      refine zj_iastoreN (n := 61) rfl dX10_undo_60 (by decide) (by decide) (by rw [show zLen 119 = 698 from rfl]; omega) ?_
      refine zj_iincN1 (n := 64) rfl dX10_undo_61 rfl (Nat.le_of_ble_eq_true rfl) ?_
      refine zj_goto (tgt := 33) dX10_undo_64 (by decide) ?_
      exact hk _ (fun a ha => by dsimp only; rw [zU_off ha]; exact hF2 a ha) hL2 (fun j hj => by
        dsimp only
        by_cases e : j = k
        · subst e; rw [zU_eq]
        · rw [zU_nj (by omega)]; exact hr2 j (by omega)) (by dsimp only; rw [zU_ne (by decide)]; exact hun2)
    · intro M2 hF2 hL2 hr2 hun2
      refine zj_iload1 (n := 34) rfl dX10_undo_33 ?_
      refine zj_sipushN (v := 698) (n := 37) rfl dX10_undo_34 (by decide) ?_
      refine zj_icmpN_ge (n := 40) (tgt := 67) rfl dX10_undo_37 (by decide) (by omega) (by omega) (fun c37 => ?_) (fun c37 => by omega)
      refine zj_aload0 (n := 68) rfl dX10_undo_67 ?_
      refine zj_getiN (e := un - 1) (n := 71) rfl dX10_undo_68 zf_X10_470 rfl (by decide) (by decide) hun2 ?_
      refine zj_ireturn dX10_undo_71 rfl rfl ?_
      unfold a_undo at h
      rw [if_neg (show ¬ un = 0 by omega), if_neg (show ¬ un = 0 by omega)] at h
      have h118 : ∀ j, j ≠ 27 → M2.1 118 j = M1.1 118 j := fun j hj => by rw [hF2 118 (by decide)]; dsimp only; exact zU_nj hj
      refine h M2 ((zMm.ofQ hQ1).tr ⟨fun a j hj => ?_, fun c j _ _ => by rw [hL2], by rw [hL2]⟩) ?_ ⟨?_, hA.2.1, hr2⟩ ⟨by dsimp only; omega, hun2, fun i hi j hj => ?_⟩
      · have ha : a ≠ 119 := fun q => by subst q; simp [zMmI] at hj
        rw [hF2 a ha]
        exact zUx (fun e => by rw [e.1, e.2] at hj; cases hj)
      · rw [h118 0 (by decide), ht1]; rfl
      · rw [hL2]; exact hA1.1
      · have hi : i < un - 1 := hi
        rw [hF2 128 (by decide)]
        dsimp only
        rw [zU_ne (by decide), hQ1.1 128 _ rfl]
        exact hur i (by omega) j hj
