/-! ANSWERS: (code of the exception, the value) -/
abbrev xn (x : Int32) : Nat := x.toNatClampNeg
theorem xn_at {n : Nat} (h : n < 2 ^ 31) : xn (nI n) = n := nI_clamp h
abbrev zA : Type := Nat × Int32
def a_count (v : zV) (x : Int32) : zA := if zin x 3 then (0, nI (v (6 + xn x))) else (1, nI 0)
def a_node (v : zV) (x y : Int32) : zA := if zin x (v 6) then (if zin y 7 then (0, nI (if xn y = 4 then vcnt v (v 8) (xn x) else if xn y < 4 then v (10 + 12 * xn x + xn y) else v (10 + 12 * xn x + (xn y - 1)))) else (2, nI 0)) else (1, nI 0)
def a_groupsOn (v : zV) (x : Int32) : zA := if zin x (v 6) then (0, nI (zMask (v 8) (fun g => vhas v g (vsh v g) (xn x)))) else (1, nI 0)
def a_nodeFrom (v : zV) (x : Int32) : zA := if zin x 10000 then (0, zo (vfrom v (xn x))) else (1, nI 0)
def a_clockwise (v : zV) (x y : Int32) : zA := if zin x (v 6) && zin y (v 6) then (0, nI (vway v (xn y) (v (10 + 12 * xn x + 0)))) else (1, nI 0)
def a_zoneShards (v : zV) (x : Int32) : zA := if zin x 10 then (0, nI (zFor (v 6) (fun n a => if v (10 + 12 * n + 1) = xn x then a + vcnt v (v 8) n else a) 0)) else (1, nI 0)
def a_tenant (v : zV) (x y : Int32) : zA := if zin x (v 7) then (if zin y 5 then (0, nI (v (202 + 11 * xn x + xn y))) else (2, nI 0)) else (1, nI 0)
def a_group (v : zV) (x y : Int32) : zA := if zin x (v 8) then (if zin y 9 then (0, nI (if xn y < 7 then v (268 + 23 * xn x + xn y) else if xn y = 7 then vcost v (xn x) else vneed v 0 (xn x))) else (2, nI 0)) else (1, nI 0)
def a_nodeOf (v : zV) (x y : Int32) : zA := if zin x (v 8) && zin y (vsh v (xn x)) then (0, nI (hol v (xn x) (xn y))) else (1, nI 0)
def a_missing (v : zV) (x : Int32) : zA := if zin x (v 8) then (0, nI (vmiss v 0 (xn x))) else (1, nI 0)
def a_zonesOf (v : zV) (x : Int32) : zA := if zin x (v 8) then (0, nI (zpop (vzs v (xn x) (vsh v (xn x)) (fun s => vav v 0 (xn x) s)))) else (1, nI 0)
def a_damaged (v : zV) : zA := (0, nI (zMask (v 8) (fun g => vdam v 0 g)))
def a_lost (v : zV) : zA := (0, nI (zMask (v 8) (fun g => vlost v 0 g)))
def a_loss (v : zV) (x : Int32) : zA := if zin x (v 8) then (0, nI (vloss v 0 (xn x))) else (1, nI 0)
def a_lossWithout (v : zV) (x y : Int32) : zA := if zin x (v 8) && zin y (v 6) then (0, nI (vloss v (2 ^ xn y) (xn x))) else (1, nI 0)
def a_offer (v : zV) (x : Int32) : zA := if zin x (v 8) then (0, nI (voffer v 0 (xn x))) else (1, nI 0)
def a_bids (v : zV) (x : Int32) : zA := if zin x (v 8) then (0, zb (vbid v 0 (xn x))) else (1, nI 0)
def a_target (v : zV) (x : Int32) : zA := if zin x (v 8) then (0, zo (if vdam v 0 (xn x) then vpm v (xn x) (vfm v 0 (xn x)) else none)) else (1, nI 0)
def a_bidder (v : zV) (x : Int32) : zA := if 0 ≤ x then (0, if xn x < (vord v 0).1 then nI ((vord v 0).2 (xn x)) else -1) else (1, nI 0)
def vout (v : zV) (g w : Nat) : Nat := if zFst (vord v 0).1 (fun k => decide ((vord v 0).2 k = g)) < (vord v 0).1 then (if w = 0 then vunits v 0 (zFst (vord v 0).1 (fun k => decide ((vord v 0).2 k = g))) else if vunits v 0 (zFst (vord v 0).1 (fun k => decide ((vord v 0).2 k = g))) = 0 then 0 else vprice v 0 (zFst (vord v 0).1 (fun k => decide ((vord v 0).2 k = g)))) else 0
def a_outcome (v : zV) (x y : Int32) : zA := if zin x (v 8) then (if zin y 2 then (0, nI (vout v (xn x) (xn y))) else (2, nI 0)) else (1, nI 0)
def a_lostBy (v : zV) (x : Int32) : zA := if zin x (2 ^ v 6) then (0, nI (zMask (v 8) (fun g => vlost v (xn x) g))) else (1, nI 0)
/-! THE MODEL's frame of a question -/
def zQmI (a j : Nat) : Bool := zSrI a j || a == 127 || (a == 118 && (j == 0 || j == 15)) || (a == 119 && decide (698 ≤ j))
def zQm (M M' : zM) : Prop := (∀ a j, zQmI a j = false → M'.1 a j = M.1 a j) ∧ (∀ c j, c ≠ 121 → ¬ (c = 118 ∧ j = 14) → M'.2.1 c j = M.2.1 c j) ∧ M'.2.2 = M.2.2
theorem zQm.rf {M : zM} : zQm M M := ⟨fun _ _ _ => rfl, fun _ _ _ _ => rfl, rfl⟩
theorem zQm.tr {M M1 M2 : zM} (h : zQm M M1) (h2 : zQm M1 M2) : zQm M M2 := ⟨fun a j hj => (h2.1 a j hj).trans (h.1 a j hj), fun c j h1 h3 => (h2.2.1 c j h1 h3).trans (h.2.1 c j h1 h3), h2.2.2.trans h.2.2⟩
theorem zQm.ofSr {M M' : zM} (h : zSr M M') : zQm M M' := ⟨fun a j hj => h.1 a j (by unfold zQmI at hj; simp only [Bool.or_eq_false_iff] at hj; exact hj.1.1.1), fun c j h1 _ => by rw [h.2.1 c h1], h.2.2⟩
theorem zQm.put {M M1 : zM} {k j : Nat} {x : Int32} (h : zQm M M1) (hk : zQmI k j = true) : zQm M (zU M1.1 k j x, M1.2) := h.tr ⟨fun a i hai => by
  show zU M1.1 k j x a i = _
  by_cases e : a = k ∧ i = j
  · obtain ⟨rfl, rfl⟩ := e; rw [hk] at hai; cases hai
  · by_cases e1 : a = k
    · subst e1; exact zU_nj (by omega)
    · exact zU_ne e1, fun _ _ _ _ => rfl, rfl⟩
theorem zQm.ra {M M' : zM} {v : zV} (h : zQm M M') (hA : zRA M 119 v) : zRA M' 119 v := ⟨(congrArg Prod.snd h.2.2).trans hA.1, hA.2.1, fun j hj => by rw [h.1 119 j (by simp [zQmI, zSrI]; omega)]; exact hA.2.2 j hj⟩
theorem zQm.td {M M' : zM} {d : Nat} (h : zQm M M') (hd : M.1 118 4 = nI d) : M'.1 118 4 = nI d := by rw [h.1 118 4 rfl]; exact hd
/-! the model's checks -/
theorem zsub1T {n : Nat} (hn : n < 2 ^ 31) : (nI n - nI 1).toInt = (n : Int) - 1 := by
  rcases Nat.eq_zero_or_pos n with q | q
  · subst q; decide
  · rw [pk_sub (show 1 ≤ n by omega), nI_toInt (by omega)]; omega
theorem zin_dec {x : Int32} {n : Nat} (hn : n < 2 ^ 31) : decide ((0 : Int) ≤ x.toInt ∧ x.toInt ≤ (n : Int) - 1) = zin x n := by
  unfold zin
  refine decide_eq_decide.mpr ?_
  rw [Int32.lt_iff_toInt_lt, Int32.le_iff_toInt_le, nI_toInt hn]
  have : (0 : Int32).toInt = 0 := rfl
  omega
section Z43
variable {Q : Option Value → zM → Prop} {X : String → zM → Prop} {M : zM}
theorem jX10_inA {x : Int32} {n : Nat} (hn : n < 2 ^ 31) (h : Q (some (.int (zb (zin x n)))) M) : zJ yX10_in cX10_in 6 (some .boolean) rX10_in Q X rX10_in.cells rX10_in.slots 0 (zEnt 6 [.long x.toInt64, .long (lN 0), .long (nI n - nI 1).toInt64]) [] M := jX10_in (by
  rw [zi64, zi64, zsub1T hn, show (lN 0).toInt = 0 from rfl, zin_dec hn]; exact h)
theorem jX10_inB {x : Int32} {k : Nat} (hn : k + 1 < 2 ^ 31) (h : Q (some (.int (zb (zin x (k + 1))))) M) : zJ yX10_in cX10_in 6 (some .boolean) rX10_in Q X rX10_in.cells rX10_in.slots 0 (zEnt 6 [.long x.toInt64, .long (lN 0), .long (lN k)]) [] M := jX10_in (by
  have e := zin_dec (x := x) hn
  rw [show ((k + 1 : Nat) : Int) - 1 = (k : Int) by omega] at e
  rw [zi64, show (lN 0).toInt = 0 from rfl, pk_lT (show k < 2 ^ 63 by omega), e]; exact h)
/-- between two numbers -/
def zin2 (x : Int32) (lo hi : Nat) : Bool := decide (nI lo ≤ x ∧ x ≤ nI hi)
theorem zin2_iff {x : Int32} {lo hi : Nat} (hl : lo < 2 ^ 31) (hh : hi < 2 ^ 31) : zin2 x lo hi = true ↔ ∃ j, lo ≤ j ∧ j ≤ hi ∧ x = nI j := by
  unfold zin2
  rw [decide_eq_true_eq]
  constructor
  · rintro ⟨h1, h2⟩
    have h0 : ¬ x < 0 := by
      rw [Int32.le_iff_toInt_le, nI_toInt hl] at h1
      rw [Int32.lt_iff_toInt_lt]
      have : (0 : Int32).toInt = 0 := rfl
      omega
    obtain ⟨j, hj, rfl⟩ := nI_of h0
    exact ⟨j, (nI_leI hl hj).mp h1, (nI_leI hj hh).mp h2, rfl⟩
  · rintro ⟨j, h1, h2, rfl⟩
    exact ⟨nI_le h1 (by omega), nI_le h2 hh⟩
theorem jX10_inC {x : Int32} {lo hi : Nat} (hl : lo < 2 ^ 31) (hh : hi < 2 ^ 31) (h : Q (some (.int (zb (zin2 x lo hi)))) M) : zJ yX10_in cX10_in 6 (some .boolean) rX10_in Q X rX10_in.cells rX10_in.slots 0 (zEnt 6 [.long x.toInt64, .long (lN lo), .long (lN hi)]) [] M := jX10_in (by
  have e : decide ((lN lo).toInt ≤ x.toInt64.toInt ∧ x.toInt64.toInt ≤ (lN hi).toInt) = zin2 x lo hi := by
    unfold zin2
    refine decide_eq_decide.mpr ?_
    rw [zi64, pk_lT (show lo < 2 ^ 63 by omega), pk_lT (show hi < 2 ^ 63 by omega), Int32.le_iff_toInt_le, Int32.le_iff_toInt_le, nI_toInt hl, nI_toInt hh]
  rw [e]; exact h)
def zcd (p q r : Bool) : Nat := if p then (if q then (if r then 0 else 3) else 2) else 1
theorem zthr_cd (p q r : Bool) : zthr p q r = nI (zcd p q r) := by cases p <;> cases q <;> cases r <;> rfl
theorem jX10_passesQ {p : Bool} (h : ∀ M1, zQm M M1 → (∀ a, a ≠ 118 → M1.1 a = M.1 a) → M1.2 = M.2 → (∀ j, j ≠ 0 → M1.1 118 j = M.1 118 j) → M1.1 118 0 = nI (zcd p true true) → Q (some (.int (zb p))) M1) : zJ yX10_passes cX10_passes 2 (some .boolean) rX10_passes Q X rX10_passes.cells rX10_passes.slots 0 (zEnt 2 [.ref 118, .int (zb p)]) [] M := jX10_passes (h _ (zQm.rf.put rfl) (fun a ha => zU_off ha) rfl (fun j hj => by dsimp only; exact zU_nj hj) (by dsimp only; rw [zU_eq, zthr_cd]))
theorem jX10_passes2Q {p q : Bool} (h : ∀ M1, zQm M M1 → (∀ a, a ≠ 118 → M1.1 a = M.1 a) → M1.2 = M.2 → (∀ j, j ≠ 0 → M1.1 118 j = M.1 118 j) → M1.1 118 0 = nI (zcd p q true) → Q (some (.int (zb (p && q)))) M1) : zJ yX10_passes2 cX10_passes2 3 (some .boolean) rX10_passes2 Q X rX10_passes2.cells rX10_passes2.slots 0 (zEnt 3 [.ref 118, .int (zb p), .int (zb q)]) [] M := jX10_passes2 (h _ (zQm.rf.put rfl) (fun a ha => zU_off ha) rfl (fun j hj => by dsimp only; exact zU_nj hj) (by dsimp only; rw [zU_eq, zthr_cd]))
theorem jX10_passes3Q {p q r : Bool} (h : ∀ M1, zQm M M1 → (∀ a, a ≠ 118 → M1.1 a = M.1 a) → M1.2 = M.2 → (∀ j, j ≠ 0 → M1.1 118 j = M.1 118 j) → M1.1 118 0 = nI (zcd p q r) → Q (some (.int (zb (p && q && r)))) M1) : zJ yX10_passes3 cX10_passes3 4 (some .boolean) rX10_passes3 Q X rX10_passes3.cells rX10_passes3.slots 0 (zEnt 4 [.ref 118, .int (zb p), .int (zb q), .int (zb r)]) [] M := jX10_passes3 (h _ (zQm.rf.put rfl) (fun a ha => zU_off ha) rfl (fun j hj => by dsimp only; exact zU_nj hj) (by dsimp only; rw [zU_eq, zthr_cd]))
end Z43
theorem jX10_isNode {v : zV} {x : Int32} {Q : Option Value → zM → Prop} {X : String → zM → Prop} {M : zM} (hA : zRA M 119 v) (h6 : v 6 < 2 ^ 31) (h : Q (some (.int (zb (zin x (v 6))))) M) : zJ yX10_isNode cX10_isNode 2 (some .boolean) rX10_isNode Q X rX10_isNode.cells rX10_isNode.slots 0 (zEnt 2 [.ref 118, .int x]) [] M := by
  show zJ yX10_isNode cX10_isNode 2 (some .boolean) rX10_isNode Q X 0 0 0 [some (.ref 118), some (.int x)] [] M
  refine zj_iload1 (n := 1) rfl dX10_isNode_0 ?_
  refine zj_i2l (n := 2) rfl dX10_isNode_1 ?_
  refine zj_lconstN_0 (n := 3) rfl dX10_isNode_2 ?_
  refine zj_aload0 (n := 4) rfl dX10_isNode_3 ?_
  refine zj_getr (n := 7) (q := 119) rfl dX10_isNode_4 zf_X10_17 rfl (by decide) (by decide) rfl ?_
  refine zj_bipushN (v := 6) (n := 9) rfl dX10_isNode_7 (by decide) ?_
  refine zj_ialoadN (e := v 6) (n := 10) rfl dX10_isNode_9 (by decide) (by decide) (by rw [show zLen 119 = 698 from rfl]; omega) (hA.2.2 6 (by decide)) ?_
  refine zj_iconstN_1 (n := 11) rfl dX10_isNode_10 ?_
  refine zj_isub (n := 12) rfl dX10_isNode_11 ?_
  refine zj_i2l (n := 13) rfl dX10_isNode_12 ?_
  refine zj_callS3 (n := 16) (a' := 0) (b' := 0) rfl dX10_isNode_13 zm_X10_62 (by decide) (Nat.le_of_ble_eq_true rfl) (Nat.le_of_ble_eq_true rfl) (Nat.le_of_ble_eq_true rfl) (Nat.le_of_ble_eq_true rfl) (jX10_inA h6 ?_)
  exact zj_ireturn dX10_isNode_16 rfl (zb_nar _) h
theorem jX10_isTenant {v : zV} {x : Int32} {Q : Option Value → zM → Prop} {X : String → zM → Prop} {M : zM} (hA : zRA M 119 v) (h7 : v 7 < 2 ^ 31) (h : Q (some (.int (zb (zin x (v 7))))) M) : zJ yX10_isTenant cX10_isTenant 2 (some .boolean) rX10_isTenant Q X rX10_isTenant.cells rX10_isTenant.slots 0 (zEnt 2 [.ref 118, .int x]) [] M := by
  show zJ yX10_isTenant cX10_isTenant 2 (some .boolean) rX10_isTenant Q X 0 0 0 [some (.ref 118), some (.int x)] [] M
  refine zj_iload1 (n := 1) rfl dX10_isTenant_0 ?_
  refine zj_i2l (n := 2) rfl dX10_isTenant_1 ?_
  refine zj_lconstN_0 (n := 3) rfl dX10_isTenant_2 ?_
  refine zj_aload0 (n := 4) rfl dX10_isTenant_3 ?_
  refine zj_getr (n := 7) (q := 119) rfl dX10_isTenant_4 zf_X10_17 rfl (by decide) (by decide) rfl ?_
  refine zj_bipushN (v := 7) (n := 9) rfl dX10_isTenant_7 (by decide) ?_
  refine zj_ialoadN (e := v 7) (n := 10) rfl dX10_isTenant_9 (by decide) (by decide) (by rw [show zLen 119 = 698 from rfl]; omega) (hA.2.2 7 (by decide)) ?_
  refine zj_iconstN_1 (n := 11) rfl dX10_isTenant_10 ?_
  refine zj_isub (n := 12) rfl dX10_isTenant_11 ?_
  refine zj_i2l (n := 13) rfl dX10_isTenant_12 ?_
  refine zj_callS3 (n := 16) (a' := 0) (b' := 0) rfl dX10_isTenant_13 zm_X10_62 (by decide) (Nat.le_of_ble_eq_true rfl) (Nat.le_of_ble_eq_true rfl) (Nat.le_of_ble_eq_true rfl) (Nat.le_of_ble_eq_true rfl) (jX10_inA h7 ?_)
  exact zj_ireturn dX10_isTenant_16 rfl (zb_nar _) h
theorem jX10_isGroup {v : zV} {x : Int32} {Q : Option Value → zM → Prop} {X : String → zM → Prop} {M : zM} (hA : zRA M 119 v) (h8 : v 8 < 2 ^ 31) (h : Q (some (.int (zb (zin x (v 8))))) M) : zJ yX10_isGroup cX10_isGroup 2 (some .boolean) rX10_isGroup Q X rX10_isGroup.cells rX10_isGroup.slots 0 (zEnt 2 [.ref 118, .int x]) [] M := by
  show zJ yX10_isGroup cX10_isGroup 2 (some .boolean) rX10_isGroup Q X 0 0 0 [some (.ref 118), some (.int x)] [] M
  refine zj_iload1 (n := 1) rfl dX10_isGroup_0 ?_
  refine zj_i2l (n := 2) rfl dX10_isGroup_1 ?_
  refine zj_lconstN_0 (n := 3) rfl dX10_isGroup_2 ?_
  refine zj_aload0 (n := 4) rfl dX10_isGroup_3 ?_
  refine zj_getr (n := 7) (q := 119) rfl dX10_isGroup_4 zf_X10_17 rfl (by decide) (by decide) rfl ?_
  refine zj_bipushN (v := 8) (n := 9) rfl dX10_isGroup_7 (by decide) ?_
  refine zj_ialoadN (e := v 8) (n := 10) rfl dX10_isGroup_9 (by decide) (by decide) (by rw [show zLen 119 = 698 from rfl]; omega) (hA.2.2 8 (by decide)) ?_
  refine zj_iconstN_1 (n := 11) rfl dX10_isGroup_10 ?_
  refine zj_isub (n := 12) rfl dX10_isGroup_11 ?_
  refine zj_i2l (n := 13) rfl dX10_isGroup_12 ?_
  refine zj_callS3 (n := 16) (a' := 0) (b' := 0) rfl dX10_isGroup_13 zm_X10_62 (by decide) (Nat.le_of_ble_eq_true rfl) (Nat.le_of_ble_eq_true rfl) (Nat.le_of_ble_eq_true rfl) (Nat.le_of_ble_eq_true rfl) (jX10_inA h8 ?_)
  exact zj_ireturn dX10_isGroup_16 rfl (zb_nar _) h
