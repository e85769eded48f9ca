/-! THE CLASS'S RINGS: more questions -/
section Z29
variable {y : MethodName} {cc : ByteArray} {nL : Nat} {ret : Option FieldType} {R : Room} {Q : Option Value → zM → Prop} {X : String → zM → Prop} {a b pc n : Nat} {l : List (Option Value)} {st : List Value} {M : zM}
theorem zdl {x z : Nat} (hx : x < 2 ^ 30) (hz : z < 2 ^ 30) : nI x - nI z < 0 ↔ x < z := by
  rw [Int32.lt_iff_toInt_lt, pk_sub_toInt hx hz]
  have : (0 : Int32).toInt = 0 := rfl
  omega
theorem zdg {x z : Nat} (hx : x < 2 ^ 30) (hz : z < 2 ^ 30) : 0 ≤ nI x - nI z ↔ z ≤ x := by
  rw [Int32.le_iff_toInt_le, pk_sub_toInt hx hz]
  have : (0 : Int32).toInt = 0 := rfl
  omega
theorem zdG {x z : Nat} (hx : x < 2 ^ 30) (hz : z < 2 ^ 30) : 0 < nI x - nI z ↔ z < x := by
  rw [Int32.lt_iff_toInt_lt, pk_sub_toInt hx hz]
  have : (0 : Int32).toInt = 0 := rfl
  omega
theorem zj_ifD_ge {x z : Nat} {off : Int} {tgt : Nat} (hn : pc + 3 = n) (hd : decode cc pc = .ok (.ifCond .ge off, 3)) (ht : (pc : Int) + off = (tgt : Int)) (hx : x < 2 ^ 30) (hz : z < 2 ^ 30) (kt : z ≤ x → zJ y cc nL ret R Q X a b tgt l st M) (kf : x < z → zJ y cc nL ret R Q X a b n l st M) : zJ y cc nL ret R Q X a b pc l (.int (nI x - nI z) :: st) M := zj_if_ge hn hd ht (fun q => kt ((zdg hx hz).mp q)) (fun q => kf (Nat.lt_of_not_le (fun w => q ((zdg hx hz).mpr w))))
theorem zj_ifD_lt {x z : Nat} {off : Int} {tgt : Nat} (hn : pc + 3 = n) (hd : decode cc pc = .ok (.ifCond .lt off, 3)) (ht : (pc : Int) + off = (tgt : Int)) (hx : x < 2 ^ 30) (hz : z < 2 ^ 30) (kt : x < z → zJ y cc nL ret R Q X a b tgt l st M) (kf : z ≤ x → zJ y cc nL ret R Q X a b n l st M) : zJ y cc nL ret R Q X a b pc l (.int (nI x - nI z) :: st) M := zj_if_lt hn hd ht (fun q => kt ((zdl hx hz).mp q)) (fun q => kf (Nat.le_of_not_lt (fun w => q ((zdl hx hz).mpr w))))
theorem zj_ifD_gt {x z : Nat} {off : Int} {tgt : Nat} (hn : pc + 3 = n) (hd : decode cc pc = .ok (.ifCond .gt off, 3)) (ht : (pc : Int) + off = (tgt : Int)) (hx : x < 2 ^ 30) (hz : z < 2 ^ 30) (kt : z < x → zJ y cc nL ret R Q X a b tgt l st M) (kf : x ≤ z → zJ y cc nL ret R Q X a b n l st M) : zJ y cc nL ret R Q X a b pc l (.int (nI x - nI z) :: st) M := zj_if_gt hn hd ht (fun q => kt ((zdG hx hz).mp q)) (fun q => kf (Nat.le_of_not_lt (fun w => q ((zdG hx hz).mpr w))))
theorem zj_ifD_le {x z : Nat} {off : Int} {tgt : Nat} (hn : pc + 3 = n) (hd : decode cc pc = .ok (.ifCond .le off, 3)) (ht : (pc : Int) + off = (tgt : Int)) (hx : x < 2 ^ 30) (hz : z < 2 ^ 30) (kt : x ≤ z → zJ y cc nL ret R Q X a b tgt l st M) (kf : z < x → zJ y cc nL ret R Q X a b n l st M) : zJ y cc nL ret R Q X a b pc l (.int (nI x - nI z) :: st) M := zj_if_le hn hd ht (fun q => kt (Nat.le_of_not_lt (fun w => absurd q (Int32.not_le.mpr ((zdG hx hz).mpr w))))) (fun q => kf ((zdG hx hz).mp (Int32.not_le.mp q)))
end Z29
theorem ztb {m n : Nat} (h : 0 < m / 2 ^ n % 2) : m.testBit n = true := by
  rw [Nat.testBit_eq_decide_div_mod_eq]
  exact decide_eq_true (by omega)
theorem ztb0 {m n : Nat} (h : m / 2 ^ n % 2 = 0) : m.testBit n = false := by
  rw [Nat.testBit_eq_decide_div_mod_eq]
  exact decide_eq_false (by omega)
theorem zmi {x s : Nat} {p : Nat → Bool} (h : x = zMask s p) (hp : p s = true) (hs : s < 31) : nI x ||| nI (2 ^ s) = nI (zMask (s + 1) p) := by
  rw [h, zor (zMask_lt s p) hs, zMask_succ, hp, if_pos rfl]
theorem zmn {x s : Nat} {p : Nat → Bool} (h : x = zMask s p) (hp : p s = false) : x = zMask (s + 1) p := by
  rw [h, zMask_succ, hp, if_neg (by decide)]
theorem vmiss_0 {v : zV} {d g : Nat} : vmiss v d g = 0 ↔ vdam v d g = false := by
  unfold vmiss vdam
  rw [zMask_ne0, decide_eq_false_iff_not]
  constructor
  · intro h q
    have := zFst_lt (p := fun s => !vav v d g s) q
    exact absurd ((h _ q).symm.trans this) (by decide)
  · intro h
    exact zFst_none.mp (by have := zFst_le (vsh v g) (fun s => !vav v d g s); unfold vfm at h; omega)
def vzs (v : zV) (g many : Nat) (P : Nat → Bool) : Nat := zMask 10 (fun z => zAny many (fun s => P s && (nd v (hol v g s) 1 == z)))
theorem vzs_zero {v : zV} {g : Nat} {P : Nat → Bool} : vzs v g 0 P = 0 := zMask_zero
theorem vzs_f {v : zV} {g k : Nat} {P : Nat → Bool} (h : P k = false) : vzs v g (k + 1) P = vzs v g k P := zMask_congr (fun i _ => by
  show (zAny k _ || (P k && _)) = _
  rw [h, Bool.false_and, Bool.or_false])
theorem vzs_t {v : zV} {g k : Nat} {P : Nat → Bool} (h : P k = true) (hz : nd v (hol v g k) 1 < 10) : vzs v g k P ||| 2 ^ nd v (hol v g k) 1 = vzs v g (k + 1) P := by
  unfold vzs
  rw [zMask_lor hz]
  refine zMask_congr (fun i _ => ?_)
  show _ = (zAny k _ || (P k && _))
  rw [h, Bool.true_and]
  congr 1
  exact Bool.beq_comm
theorem vzs_lt (v : zV) (g k : Nat) (P : Nat → Bool) : vzs v g k P < 2 ^ 10 := zMask_lt _ _
theorem vzs_bit {v : zV} {g many z : Nat} {P : Nat → Bool} (h : z < 10) : (vzs v g many P).testBit z = zAny many (fun s => P s && (nd v (hol v g s) 1 == z)) := by
  unfold vzs
  rw [zMask_bit, decide_eq_true h, Bool.true_and]
theorem vnsk_bit {v : zV} {g k n : Nat} (h : n < 16) : (vnsk v g k).testBit n = vhas v g k n := by
  unfold vnsk
  rw [zMask_bit, decide_eq_true h, Bool.true_and]
theorem znotbit : ∀ sh, sh < 10 → ∀ s, s < 10 → ((nI (2 ^ sh) ^^^ (-1)) >>> (nI s &&& 31)) &&& nI 1 = zb (!decide (s = sh)) := by decide +kernel
theorem zmaskbit {n s : Nat} {p : Nat → Bool} (hn : n ≤ 30) (hs : s < 31) : (nI (zMask n p) >>> (nI s &&& 31)) &&& nI 1 = zb (decide (s < n) && p s) := by
  rw [zbitN (zMask_lt31 hn) hs, zMask_bit]
theorem jX6_zoneSet {r gn g many : Nat} {v : zV} {cn mn : Nat → Nat} {P : Nat → Bool} {S : Int32} {Q : Option Value → zM → Prop} {X : String → zM → Prop} {M : zM} (hi : zRi r) (hN : zNo M r v cn) (hG : zGr M r v gn mn) (hg : g < gn) (hm : mn g = many) (hsh : vsh v g ≤ 10) (hma : many ≤ vsh v g) (h6 : v 6 ≤ 16) (hho : ∀ s, s < many → hol v g s < v 6) (hz : ∀ n, n < v 6 → nd v n 1 ≤ 9) (hS : ∀ s, s < 10 → (S >>> (nI s &&& 31)) &&& nI 1 = zb (P s)) (h : Q (some (.int (nI (vzs v g many P)))) M) : zJ yX6_zoneSet cX6_zoneSet 7 (some .int) rX6_zoneSet Q X rX6_zoneSet.cells rX6_zoneSet.slots 0 (zEnt 7 [.ref r, .int (nI g), .int S]) [] M := by
  subst hm
  have h5 := hG.1.2.2.2.2.1
  show zJ yX6_zoneSet cX6_zoneSet 7 (some .int) rX6_zoneSet Q X 0 0 0 [some (.ref r), some (.int (nI g)), some (.int S), none, none, none, none] [] M
  refine zj_iconstN_0 (n := 1) rfl dX6_zoneSet_0 ?_
  refine zj_istore3 (n := 2) rfl dX6_zoneSet_1 rfl (Nat.le_of_ble_eq_true rfl) ?_
  refine zj_aload0 (n := 3) rfl dX6_zoneSet_2 ?_
  refine zj_getr (n := 6) (q := r + 5) rfl dX6_zoneSet_3 zf_X6_23 rfl hi.lt hi.ty rfl ?_
  refine zj_iload1 (n := 7) rfl dX6_zoneSet_6 ?_
  refine zj_bipushN (v := 9) (n := 9) rfl dX6_zoneSet_7 (by decide) ?_
  refine zj_callV2 (n := 12) (a' := 0) (b' := 0) rfl dX6_zoneSet_9 zm_X6_58 (by decide) (hi.ltc (c := 5) (by decide)) (by rw [(hi.ty1 (c := 5) (by decide))]; rfl) (Nat.le_of_ble_eq_true rfl) (Nat.le_of_ble_eq_true rfl) (Nat.le_of_ble_eq_true rfl) (Nat.le_of_ble_eq_true rfl) (jT_get hG.1 (by omega) (by decide) (hG.n (by omega)) ?_)
  refine zj_istore4 (n := 14) rfl dX6_zoneSet_12 rfl (Nat.le_of_ble_eq_true rfl) ?_
  refine zj_iconstN_0 (n := 15) rfl dX6_zoneSet_14 ?_
  refine zj_istore5 (n := 17) rfl dX6_zoneSet_15 rfl (Nat.le_of_ble_eq_true rfl) ?_
  refine zFor_rule (P := fun s (_ : Unit) => ∀ x, x = vzs v g (min s (mn g)) P → zJ yX6_zoneSet cX6_zoneSet 7 (some .int) rX6_zoneSet Q X 0 0 17 [some (.ref r), some (.int (nI g)), some (.int (S)), some (.int (nI x)), some (.int (nI (vsh v g))), some (.int (nI s)), none] [] M) (n := vsh v g) (f := fun _ s => s) (s0 := ()) ?_ ?_ 0 (by rw [Nat.zero_min]; exact vzs_zero.symm)
  · intro s _ hs hk x hx
    refine zj_iload5 (n := 19) rfl dX6_zoneSet_17 ?_
    refine zj_iload4 (n := 21) rfl dX6_zoneSet_19 ?_
    refine zj_icmpN_ge (n := 24) (tgt := 75) rfl dX6_zoneSet_21 (by decide) (by omega) (by omega) (fun c21 => by omega) (fun c21 => ?_)
    refine zj_aload0 (n := 25) rfl dX6_zoneSet_24 ?_
    refine zj_getr (n := 28) (q := r + 5) rfl dX6_zoneSet_25 zf_X6_23 rfl hi.lt hi.ty rfl ?_
    refine zj_iload1 (n := 29) rfl dX6_zoneSet_28 ?_
    refine zj_bipushN (v := 10) (n := 31) rfl dX6_zoneSet_29 (by decide) ?_
    refine zj_iload5 (n := 33) rfl dX6_zoneSet_31 ?_
    refine zj_iaddN (n := 34) rfl dX6_zoneSet_33 ?_
    rcases Nat.lt_or_ge s (mn g) with hq | hq
    · refine zj_callV2 (n := 37) (a' := 0) (b' := 0) rfl dX6_zoneSet_34 zm_X6_58 (by decide) (hi.ltc (c := 5) (by decide)) (by rw [(hi.ty1 (c := 5) (by decide))]; rfl) (Nat.le_of_ble_eq_true rfl) (Nat.le_of_ble_eq_true rfl) (Nat.le_of_ble_eq_true rfl) (Nat.le_of_ble_eq_true rfl) (jT_get (e := hol v g s) hG.1 (by omega) (by omega) (hG.sh (by omega) hq) ?_)
      refine zj_istore6 (n := 39) rfl dX6_zoneSet_37 rfl (Nat.le_of_ble_eq_true rfl) ?_
      have hho_s : hol v g s < v 6 := hho s hq
      have hz_s : v (10 + 12 * hol v g s + 1) ≤ 9 := hz _ hho_s
      refine zj_iload6 (n := 41) rfl dX6_zoneSet_39 ?_
      refine zj_iconst_m1 (n := 42) rfl dX6_zoneSet_41 ?_
      refine zj_icmp_eq (n := 45) (tgt := 69) rfl dX6_zoneSet_42 (by decide) (fun q => absurd q (nI_ne_m1 (by omega))) (fun _ => ?_)
      refine zj_iload2 (n := 46) rfl dX6_zoneSet_45 ?_
      refine zj_iload5 (n := 48) rfl dX6_zoneSet_46 ?_
      refine zj_ishr (n := 49) rfl dX6_zoneSet_48 ?_
      refine zj_iconstN_1 (n := 50) rfl dX6_zoneSet_49 ?_
      refine zj_iand (n := 51) rfl dX6_zoneSet_50 ?_
      rw [hS s (by omega)]
      refine zj_ifB_eq (n := 54) (tgt := 69) rfl dX6_zoneSet_51 (by decide) (fun c51 => ?_) (fun c51 => ?_)
      · refine zj_iincN5 (n := 72) rfl dX6_zoneSet_69 rfl (Nat.le_of_ble_eq_true rfl) ?_
        refine zj_goto (tgt := 17) dX6_zoneSet_72 (by decide) ?_
        refine zj_keep [true, true, true, true, true, true, false] ?_
        have hx2 : x = vzs v g s P := by rw [hx, show min s (mn g) = s by omega]
        exact hk x (by rw [hx2, show min (s + 1) (mn g) = s + 1 by omega, vzs_f c51])
      · refine zj_iload3 (n := 55) rfl dX6_zoneSet_54 ?_
        refine zj_iconstN_1 (n := 56) rfl dX6_zoneSet_55 ?_
        refine zj_aload0 (n := 57) rfl dX6_zoneSet_56 ?_
        refine zj_getr (n := 60) (q := r + 1) rfl dX6_zoneSet_57 zf_X6_14 rfl hi.lt hi.ty rfl ?_
        refine zj_iload6 (n := 62) rfl dX6_zoneSet_60 ?_
        refine zj_iconstN_1 (n := 63) rfl dX6_zoneSet_62 ?_
        refine zj_callV2 (n := 66) (a' := 0) (b' := 0) rfl dX6_zoneSet_63 zm_X6_58 (by decide) (hi.ltc (c := 1) (by decide)) (by rw [(hi.ty1 (c := 1) (by decide))]; rfl) (Nat.le_of_ble_eq_true rfl) (Nat.le_of_ble_eq_true rfl) (Nat.le_of_ble_eq_true rfl) (Nat.le_of_ble_eq_true rfl) (jT_get hN.1 (by omega) (by decide) (hN.c1 (by omega)) ?_)
        refine zj_ishlN1 (n := 67) rfl dX6_zoneSet_66 (by omega) ?_
        refine zj_ior (n := 68) rfl dX6_zoneSet_67 ?_
        refine zj_istore3 (n := 69) rfl dX6_zoneSet_68 rfl (Nat.le_of_ble_eq_true rfl) ?_
        refine zj_iincN5 (n := 72) rfl dX6_zoneSet_69 rfl (Nat.le_of_ble_eq_true rfl) ?_
        refine zj_goto (tgt := 17) dX6_zoneSet_72 (by decide) ?_
        refine zj_keep [true, true, true, true, true, true, false] ?_
        have hx2 : x = vzs v g s P := by rw [hx, show min s (mn g) = s by omega]
        have hl := vzs_lt v g s P
        have hp2 : 2 ^ v (10 + 12 * hol v g s + 1) < 2 ^ 31 := Nat.pow_lt_pow_right (by decide) (by omega)
        rw [zorN (by omega) hp2, hx2, show vzs v g s P ||| 2 ^ v (10 + 12 * hol v g s + 1) = vzs v g (s + 1) P from vzs_t c51 (show v (10 + 12 * hol v g s + 1) < 10 by omega)]
        exact hk _ (by rw [show min (s + 1) (mn g) = s + 1 by omega])
    · refine zj_callV2 (n := 37) (a' := 0) (b' := 0) rfl dX6_zoneSet_34 zm_X6_58 (by decide) (hi.ltc (c := 5) (by decide)) (by rw [(hi.ty1 (c := 5) (by decide))]; rfl) (Nat.le_of_ble_eq_true rfl) (Nat.le_of_ble_eq_true rfl) (Nat.le_of_ble_eq_true rfl) (Nat.le_of_ble_eq_true rfl) (jT_getI hG.1 (by omega) (by omega) (hG.un (by omega) hq hs) ?_)
      refine zj_istore6 (n := 39) rfl dX6_zoneSet_37 rfl (Nat.le_of_ble_eq_true rfl) ?_
      -- 
      refine zj_iload6 (n := 41) rfl dX6_zoneSet_39 ?_
      refine zj_iconst_m1 (n := 42) rfl dX6_zoneSet_41 ?_
      refine zj_icmp_eq (n := 45) (tgt := 69) rfl dX6_zoneSet_42 (by decide) (fun _ => ?_) (fun h => absurd h (by decide))
      refine zj_iincN5 (n := 72) rfl dX6_zoneSet_69 rfl (Nat.le_of_ble_eq_true rfl) ?_
      refine zj_goto (tgt := 17) dX6_zoneSet_72 (by decide) ?_
      refine zj_keep [true, true, true, true, true, true, false] ?_
      exact hk x (by rw [hx, show min (s + 1) (mn g) = min s (mn g) by omega])
  · intro x hx
    refine zj_iload5 (n := 19) rfl dX6_zoneSet_17 ?_
    refine zj_iload4 (n := 21) rfl dX6_zoneSet_19 ?_
    refine zj_icmpN_ge (n := 24) (tgt := 75) rfl dX6_zoneSet_21 (by decide) (by omega) (by omega) (fun c21 => ?_) (fun c21 => by omega)
    refine zj_iload3 (n := 76) rfl dX6_zoneSet_75 ?_
    exact zj_ireturn dX6_zoneSet_76 rfl rfl (zQi h (by rw [hx, Nat.min_eq_right hma]))
def vct (v : zV) (cn : Nat → Nat) (K n : Nat) : Bool := (v (10 + 12 * n + 4) == 0) && decide (cn n < v (10 + 12 * n + 3)) && !K.testBit n
theorem jX6_canTake {r K n : Nat} {v : zV} {cn : Nat → Nat} {Q : Option Value → zM → Prop} {X : String → zM → Prop} {M : zM} (hi : zRi r) (hN : zNo M r v cn) (hn : n < v 6) (hK : K < 2 ^ 31) (h6 : v 6 ≤ 16) (h4 : v (10 + 12 * n + 4) < 2 ^ 31) (h3 : v (10 + 12 * n + 3) < 2 ^ 31) (hcn : cn n < 2 ^ 31) (h : Q (some (.int (zb (vct v cn K n)))) M) : zJ yX6_canTake cX6_canTake 3 (some .boolean) rX6_canTake Q X rX6_canTake.cells rX6_canTake.slots 0 (zEnt 3 [.ref r, .int (nI n), .int (nI K)]) [] M := by
  show zJ yX6_canTake cX6_canTake 3 (some .boolean) rX6_canTake Q X 0 0 0 [some (.ref r), some (.int (nI n)), some (.int (nI K))] [] M
  refine zj_aload0 (n := 1) rfl dX6_canTake_0 ?_
  refine zj_getr (n := 4) (q := r + 1) rfl dX6_canTake_1 zf_X6_14 rfl hi.lt hi.ty rfl ?_
  refine zj_iload1 (n := 5) rfl dX6_canTake_4 ?_
  refine zj_iconstN_5 (n := 6) rfl dX6_canTake_5 ?_
  refine zj_callV2 (n := 9) (a' := 0) (b' := 0) rfl dX6_canTake_6 zm_X6_58 (by decide) (hi.ltc (c := 1) (by decide)) (by rw [(hi.ty1 (c := 1) (by decide))]; rfl) (Nat.le_of_ble_eq_true rfl) (Nat.le_of_ble_eq_true rfl) (Nat.le_of_ble_eq_true rfl) (Nat.le_of_ble_eq_true rfl) (jT_get hN.1 (by omega) (by decide) (hN.c5 (by omega)) ?_)
  refine zj_ifN_ne (n := 12) (tgt := 45) rfl dX6_canTake_9 (by decide) (by omega) (fun c9 => ?_) (fun c9 => ?_)
  · refine zj_iconstN_0 (n := 46) rfl dX6_canTake_45 ?_
    exact zj_ireturn dX6_canTake_46 rfl rfl (zQi h (by unfold vct; rw [show (v (10 + 12 * n + 4) == 0) = false from beq_false_of_ne (by omega)]; rfl))
  · refine zj_aload0 (n := 13) rfl dX6_canTake_12 ?_
    refine zj_getr (n := 16) (q := r + 1) rfl dX6_canTake_13 zf_X6_14 rfl hi.lt hi.ty rfl ?_
    refine zj_iload1 (n := 17) rfl dX6_canTake_16 ?_
    refine zj_iconstN_4 (n := 18) rfl dX6_canTake_17 ?_
    refine zj_callV2 (n := 21) (a' := 0) (b' := 0) rfl dX6_canTake_18 zm_X6_58 (by decide) (hi.ltc (c := 1) (by decide)) (by rw [(hi.ty1 (c := 1) (by decide))]; rfl) (Nat.le_of_ble_eq_true rfl) (Nat.le_of_ble_eq_true rfl) (Nat.le_of_ble_eq_true rfl) (Nat.le_of_ble_eq_true rfl) (jT_get hN.1 (by omega) (by decide) (hN.c4 (by omega)) ?_)
    refine zj_aload0 (n := 22) rfl dX6_canTake_21 ?_
    refine zj_getr (n := 25) (q := r + 1) rfl dX6_canTake_22 zf_X6_14 rfl hi.lt hi.ty rfl ?_
    refine zj_iload1 (n := 26) rfl dX6_canTake_25 ?_
    refine zj_iconstN_3 (n := 27) rfl dX6_canTake_26 ?_
    refine zj_callV2 (n := 30) (a' := 0) (b' := 0) rfl dX6_canTake_27 zm_X6_58 (by decide) (hi.ltc (c := 1) (by decide)) (by rw [(hi.ty1 (c := 1) (by decide))]; rfl) (Nat.le_of_ble_eq_true rfl) (Nat.le_of_ble_eq_true rfl) (Nat.le_of_ble_eq_true rfl) (Nat.le_of_ble_eq_true rfl) (jT_get hN.1 (by omega) (by decide) (hN.c3 (by omega)) ?_)
    refine zj_icmpN_ge (n := 33) (tgt := 45) rfl dX6_canTake_30 (by decide) (by omega) (by omega) (fun c30 => ?_) (fun c30 => ?_)
    · refine zj_iconstN_0 (n := 46) rfl dX6_canTake_45 ?_
      exact zj_ireturn dX6_canTake_46 rfl rfl (zQi h (by unfold vct; rw [decide_eq_false (show ¬ cn n < v (10 + 12 * n + 3) by omega), Bool.and_false]; rfl))
    · refine zj_iload2 (n := 34) rfl dX6_canTake_33 ?_
      refine zj_iload1 (n := 35) rfl dX6_canTake_34 ?_
      refine zj_ishrN (n := 36) rfl dX6_canTake_35 (by omega) (by omega) ?_
      refine zj_iconstN_1 (n := 37) rfl dX6_canTake_36 ?_
      refine zj_iandN1 (n := 38) rfl dX6_canTake_37 (Nat.lt_of_le_of_lt (Nat.div_le_self _ _) hK) ?_
      refine zj_ifN_ne (n := 41) (tgt := 45) rfl dX6_canTake_38 (by decide) (by omega) (fun c38 => ?_) (fun c38 => ?_)
      · refine zj_iconstN_0 (n := 46) rfl dX6_canTake_45 ?_
        exact zj_ireturn dX6_canTake_46 rfl rfl (zQi h (by unfold vct; rw [ztb c38, Bool.not_true, Bool.and_false]; rfl))
      · refine zj_iconstN_1 (n := 42) rfl dX6_canTake_41 ?_
        refine zj_goto (tgt := 46) dX6_canTake_42 (by decide) ?_
        exact zj_ireturn dX6_canTake_46 rfl rfl (zQi h (by unfold vct; rw [ztb0 c38, decide_eq_true c30, show (v (10 + 12 * n + 4) == 0) = true from beq_iff_eq.mpr c9]; rfl))
theorem vct_can {v : zV} {cn : Nat → Nat} {g many few n : Nat} (hc : cn n = von v g few n) (hn : n < 16) : vct v cn (vnsk v g many) n = vcan v g many few n := by
  unfold vct vcan
  rw [vnsk_bit hn, hc, Bool.and_assoc, Bool.and_comm (decide _), ← Bool.and_assoc]
theorem vzs_fz {v : zV} {g many n sh : Nat} {but : Int32} (hb : ∀ s, s < many → decide (nI s = but) = decide (s = sh)) (hz : nd v n 1 ≤ 9) : (vzs v g many (fun s => !decide (s = sh))).testBit (nd v n 1) = !vfz v g many but n := by
  rw [vzs_bit (by omega)]
  unfold vfz
  rw [Bool.not_not]
  exact zAny_congr (fun s hs => by rw [hb s hs])
theorem jX6_placeFor {r gn g many few sh p : Nat} {v : zV} {cn mn : Nat → Nat} {but : Int32} {Q : Option Value → zM → Prop} {X : String → zM → Prop} {M : zM} (hi : zRi r) (hN : zNo M r v cn) (hG : zGr M r v gn mn) (hg : g < gn) (hm : mn g = many) (hsh : vsh v g ≤ 10) (hma : many ≤ vsh v g) (h6 : v 6 ≤ 16) (hho : ∀ s, s < many → hol v g s < v 6) (hz : ∀ n, n < v 6 → nd v n 0 ≤ 9999 ∧ nd v n 1 ≤ 9 ∧ nd v n 3 < 2 ^ 31 ∧ nd v n 4 < 2 ^ 31) (hd : ∀ n m, n < v 6 → m < v 6 → v (10 + 12 * n + 0) = v (10 + 12 * m + 0) → n = m) (hc : ∀ n, n < v 6 → cn n = von v g few n ∧ cn n < 2 ^ 31) (hs : sh < 10) (hb : ∀ s, s < many → decide (nI s = but) = decide (s = sh)) (hp : p ≤ 10000) (h : Q (some (.int (zo (vplace v g many few but p)))) M) : zJ yX6_placeFor cX6_placeFor 11 (some .int) rX6_placeFor Q X rX6_placeFor.cells rX6_placeFor.slots 0 (zEnt 11 [.ref r, .int (nI g), .int (nI sh), .int (nI p)]) [] M := by
  have h60 : v 6 = 0 → vplace v g many few but p = none := fun e => by unfold vplace vscan; rw [e]
  show zJ yX6_placeFor cX6_placeFor 11 (some .int) rX6_placeFor Q X 0 0 0 [some (.ref r), some (.int (nI g)), some (.int (nI sh)), some (.int (nI p)), none, none, none, none, none, none, none] [] M
  refine zj_aload0 (n := 1) rfl dX6_placeFor_0 ?_
  refine zj_iload1 (n := 2) rfl dX6_placeFor_1 ?_
  refine zj_callV1 (n := 5) (a' := 0) (b' := 0) rfl dX6_placeFor_2 zm_X6_86 (by decide) hi.lt (by rw [hi.ty]; rfl) (Nat.le_of_ble_eq_true rfl) (Nat.le_of_ble_eq_true rfl) (Nat.le_of_ble_eq_true rfl) (Nat.le_of_ble_eq_true rfl) (jX6_nodeSet (many := many) hi hG hg hm hsh hma (fun s q => by have := hho s q; omega) ?_)
  refine zj_istore4 (n := 7) rfl dX6_placeFor_5 rfl (Nat.le_of_ble_eq_true rfl) ?_
  refine zj_aload0 (n := 8) rfl dX6_placeFor_7 ?_
  refine zj_iload1 (n := 9) rfl dX6_placeFor_8 ?_
  refine zj_iconstN_1 (n := 10) rfl dX6_placeFor_9 ?_
  refine zj_iload2 (n := 11) rfl dX6_placeFor_10 ?_
  refine zj_ishlN1 (n := 12) rfl dX6_placeFor_11 (by omega) ?_
  -- 
  refine zj_iconst_m1 (n := 13) rfl dX6_placeFor_12 ?_
  refine zj_ixor (n := 14) rfl dX6_placeFor_13 ?_
  refine zj_callV2 (n := 17) (a' := 0) (b' := 0) rfl dX6_placeFor_14 zm_X6_89 (by decide) hi.lt (by rw [hi.ty]; rfl) (Nat.le_of_ble_eq_true rfl) (Nat.le_of_ble_eq_true rfl) (Nat.le_of_ble_eq_true rfl) (Nat.le_of_ble_eq_true rfl) (jX6_zoneSet (many := many) (P := fun s => !decide (s = sh)) hi hN hG hg hm hsh hma h6 hho (fun n q => (hz n q).2.1) (fun s q => znotbit sh hs s q) ?_)
  refine zj_istore5 (n := 19) rfl dX6_placeFor_17 rfl (Nat.le_of_ble_eq_true rfl) ?_
  refine zj_iconst_m1 (n := 20) rfl dX6_placeFor_19 ?_
  refine zj_istore6 (n := 22) rfl dX6_placeFor_20 rfl (Nat.le_of_ble_eq_true rfl) ?_
  refine zj_iconstN_0 (n := 23) rfl dX6_placeFor_22 ?_
  refine zj_istore7 (n := 25) rfl dX6_placeFor_23 rfl (Nat.le_of_ble_eq_true rfl) ?_
  refine zj_iconstN_0 (n := 26) rfl dX6_placeFor_25 ?_
  refine zj_istore8 (n := 28) rfl dX6_placeFor_26 rfl (Nat.le_of_ble_eq_true rfl) ?_
  refine zj_sub (l' := [some (.ref r), some (.int (nI g)), some (.int (nI sh)), some (.int (nI p)), some (.int (nI (vnsk v g many))), some (.int (nI (vzs v g many (fun s => !decide (s = sh))))), some (.int (zo (vbest (vcan v g many few) (vkey v p (vfz v g many but)) 0).1)), some (.int (nI (vbest (vcan v g many few) (vkey v p (vfz v g many but)) 0).2)), some (.int (nI 0)), none, none]) (by simp only [zLe, eq_self, and_true, true_and, Value.int.injEq]; exact ⟨rfl, rfl⟩) ?_
  refine zFor_rule (P := fun n (_ : Unit) => zJ yX6_placeFor cX6_placeFor 11 (some .int) rX6_placeFor Q X 0 0 28 [some (.ref r), some (.int (nI g)), some (.int (nI sh)), some (.int (nI p)), some (.int (nI (vnsk v g many))), some (.int (nI (vzs v g many (fun s => !decide (s = sh))))), some (.int (zo ((vbest (vcan v g many few) (vkey v p (vfz v g many but)) n).1))), some (.int (nI ((vbest (vcan v g many few) (vkey v p (vfz v g many but)) n).2))), some (.int (nI n)), none, none] [] M) (n := v 6) (f := fun _ s => s) (s0 := ()) ?_ ?_
  · intro n _ hn hk
    obtain ⟨hz0, hz1, hz3, hz4⟩ := hz n hn
    have hz0 : v (10 + 12 * n + 0) ≤ 9999 := hz0
    have hz1 : v (10 + 12 * n + 1) ≤ 9 := hz1
    have hz3 : v (10 + 12 * n + 3) < 2 ^ 31 := hz3
    have hz4 : v (10 + 12 * n + 4) < 2 ^ 31 := hz4
    have hcc := hc n hn
    have hcan := vct_can (many := many) hcc.1 (show n < 16 by omega)
    have hbk : ∀ b, (vbest (vcan v g many few) (vkey v p (vfz v g many but)) n).1 = some b → (vbest (vcan v g many few) (vkey v p (vfz v g many but)) n).2 < 20000 := fun b hb9 => by
      rw [(vbest_min (can := (vcan v g many few)) (K := (vkey v p (vfz v g many but))) n).2 b hb9]
      have := vway_lt v b p
      unfold vkey
      split <;> omega
    refine zj_iload8 (n := 30) rfl dX6_placeFor_28 ?_
    refine zj_aload0 (n := 31) rfl dX6_placeFor_30 ?_
    refine zj_getr (n := 34) (q := r + 1) rfl dX6_placeFor_31 zf_X6_14 rfl hi.lt hi.ty rfl ?_
    refine zj_getiN (e := v 6) (n := 37) rfl dX6_placeFor_34 zf_X6_55 rfl (hi.ltc (c := 1) (by decide)) (hi.ty1 (c := 1) (by decide)) hN.1.2.2.2.1 ?_
    refine zj_icmpN_ge (n := 40) (tgt := 125) rfl dX6_placeFor_37 (by decide) (by omega) (by omega) (fun c37 => by omega) (fun c37 => ?_)
    refine zj_aload0 (n := 41) rfl dX6_placeFor_40 ?_
    refine zj_iload8 (n := 43) rfl dX6_placeFor_41 ?_
    refine zj_iload4 (n := 45) rfl dX6_placeFor_43 ?_
    refine zj_callV2 (n := 48) (a' := 0) (b' := 0) rfl dX6_placeFor_45 zm_X6_92 (by decide) hi.lt (by rw [hi.ty]; rfl) (Nat.le_of_ble_eq_true rfl) (Nat.le_of_ble_eq_true rfl) (Nat.le_of_ble_eq_true rfl) (Nat.le_of_ble_eq_true rfl) (jX6_canTake hi hN hn (by have := vnsk_lt v g many; omega) h6 hz4 hz3 hcc.2 ?_)
    refine zj_ifB_eq (n := 51) (tgt := 119) rfl dX6_placeFor_48 (by decide) (fun c48 => ?_) (fun c48 => ?_)
    · refine zj_iincN8 (n := 122) rfl dX6_placeFor_119 rfl (Nat.le_of_ble_eq_true rfl) ?_
      refine zj_goto (tgt := 28) dX6_placeFor_122 (by decide) ?_
      rw [hcan] at c48
      rw [vbest_f (by rw [c48, Bool.false_and])] at hk
      exact hk
    · refine zj_iload5 (n := 53) rfl dX6_placeFor_51 ?_
      refine zj_aload0 (n := 54) rfl dX6_placeFor_53 ?_
      refine zj_getr (n := 57) (q := r + 1) rfl dX6_placeFor_54 zf_X6_14 rfl hi.lt hi.ty rfl ?_
      refine zj_iload8 (n := 59) rfl dX6_placeFor_57 ?_
      refine zj_iconstN_1 (n := 60) rfl dX6_placeFor_59 ?_
      refine zj_callV2 (n := 63) (a' := 0) (b' := 0) rfl dX6_placeFor_60 zm_X6_58 (by decide) (hi.ltc (c := 1) (by decide)) (by rw [(hi.ty1 (c := 1) (by decide))]; rfl) (Nat.le_of_ble_eq_true rfl) (Nat.le_of_ble_eq_true rfl) (Nat.le_of_ble_eq_true rfl) (Nat.le_of_ble_eq_true rfl) (jT_get hN.1 (by omega) (by decide) (hN.c1 (by omega)) ?_)
      refine zj_ishrN (n := 64) rfl dX6_placeFor_63 (by have := vzs_lt v g many (fun s => !decide (s = sh)); omega) (by have := vzs_lt v g many (fun s => !decide (s = sh)); omega) ?_
      refine zj_iconstN_1 (n := 65) rfl dX6_placeFor_64 ?_
      refine zj_iandN1 (n := 66) rfl dX6_placeFor_65 (Nat.lt_of_le_of_lt (Nat.div_le_self _ _) (by have := vzs_lt v g many (fun s => !decide (s = sh)); omega)) ?_
      have hzb := vzs_fz (v := v) (g := g) (n := n) hb (hz n hn).2.1
      have hzb : (vzs v g many (fun s => !decide (s = sh))).testBit (v (10 + 12 * n + 1)) = !vfz v g many but n := hzb
      have hwl := vway_lt v n p
      refine zj_ifN_ne (n := 69) (tgt := 73) rfl dX6_placeFor_66 (by decide) (by omega) (fun c66 => ?_) (fun c66 => ?_)
      · have hfz : vfz v g many but n = false := by rw [ztb c66] at hzb; simpa using hzb.symm
        have hkey : (vkey v p (vfz v g many but)) n = vway v n p + 10000 := by unfold vkey; rw [hfz]; rfl
        refine zj_iconstN_0 (n := 74) rfl dX6_placeFor_73 ?_
        refine zj_istore9 (n := 76) rfl dX6_placeFor_74 rfl (Nat.le_of_ble_eq_true rfl) ?_
        refine zj_aload0 (n := 77) rfl dX6_placeFor_76 ?_
        refine zj_iload8 (n := 79) rfl dX6_placeFor_77 ?_
        refine zj_iload3 (n := 80) rfl dX6_placeFor_79 ?_
        refine zj_callV2 (n := 83) (a' := 0) (b' := 0) rfl dX6_placeFor_80 zm_X6_96 (by decide) hi.lt (by rw [hi.ty]; rfl) (Nat.le_of_ble_eq_true rfl) (Nat.le_of_ble_eq_true rfl) (Nat.le_of_ble_eq_true rfl) (Nat.le_of_ble_eq_true rfl) (jX6_wayTo hi hN hn hz0 hp ?_)
        refine zj_iload9 (n := 85) rfl dX6_placeFor_83 ?_
        refine zj_ifN_eq (n := 88) (tgt := 92) rfl dX6_placeFor_85 (by decide) (by omega) (fun _ => ?_) (fun h => absurd h (by decide))
        refine zj_sipushN (v := 10000) (n := 95) rfl dX6_placeFor_92 (by decide) ?_
        refine zj_iaddN (n := 96) rfl dX6_placeFor_95 ?_
        refine zj_istore10 (n := 98) rfl dX6_placeFor_96 rfl (Nat.le_of_ble_eq_true rfl) ?_
        refine zj_iload6 (n := 100) rfl dX6_placeFor_98 ?_
        refine zj_iconst_m1 (n := 101) rfl dX6_placeFor_100 ?_
        refine zj_icmpO_eq (n := 104) (tgt := 111) rfl dX6_placeFor_101 (by decide) (fun m hm => by have := (vbest_min (can := (vcan v g many few)) (K := (vkey v p (vfz v g many but))) n).1; rw [hm] at this; have := this.1; omega) (fun c101 => ?_) (fun m101 c101 => ?_)
        · refine zj_iload8 (n := 113) rfl dX6_placeFor_111 ?_
          refine zj_istore6 (n := 115) rfl dX6_placeFor_113 rfl (Nat.le_of_ble_eq_true rfl) ?_
          refine zj_iload10 (n := 117) rfl dX6_placeFor_115 ?_
          refine zj_istore7 (n := 119) rfl dX6_placeFor_117 rfl (Nat.le_of_ble_eq_true rfl) ?_
          refine zj_iincN8 (n := 122) rfl dX6_placeFor_119 rfl (Nat.le_of_ble_eq_true rfl) ?_
          refine zj_goto (tgt := 28) dX6_placeFor_122 (by decide) ?_
          refine zj_keep [true, true, true, true, true, true, true, true, true, false, false] ?_
          rw [hcan] at c48
          rw [vbest_t (by rw [c48, c101]; rfl), hkey] at hk
          exact hk
        · refine zj_iload10 (n := 106) rfl dX6_placeFor_104 ?_
          refine zj_iload7 (n := 108) rfl dX6_placeFor_106 ?_
          refine zj_icmpN_ge (n := 111) (tgt := 119) rfl dX6_placeFor_108 (by decide) (by first | omega | (have := hbk m101 c101; omega)) (by first | omega | (have := hbk m101 c101; omega)) (fun c108 => ?_) (fun c108 => ?_)
          · refine zj_iincN8 (n := 122) rfl dX6_placeFor_119 rfl (Nat.le_of_ble_eq_true rfl) ?_
            refine zj_goto (tgt := 28) dX6_placeFor_122 (by decide) ?_
            refine zj_keep [true, true, true, true, true, true, true, true, true, false, false] ?_
            rw [hcan] at c48
            rw [vbest_f (by rw [c48, c101, hkey, decide_eq_false (by omega)]; rfl)] at hk
            exact hk
          · refine zj_iload8 (n := 113) rfl dX6_placeFor_111 ?_
            refine zj_istore6 (n := 115) rfl dX6_placeFor_113 rfl (Nat.le_of_ble_eq_true rfl) ?_
            refine zj_iload10 (n := 117) rfl dX6_placeFor_115 ?_
            refine zj_istore7 (n := 119) rfl dX6_placeFor_117 rfl (Nat.le_of_ble_eq_true rfl) ?_
            refine zj_iincN8 (n := 122) rfl dX6_placeFor_119 rfl (Nat.le_of_ble_eq_true rfl) ?_
            refine zj_goto (tgt := 28) dX6_placeFor_122 (by decide) ?_
            refine zj_keep [true, true, true, true, true, true, true, true, true, false, false] ?_
            rw [hcan] at c48
            rw [vbest_t (by rw [c48, c101, hkey, decide_eq_true c108]; rfl), hkey] at hk
            exact hk
      · have hfz : vfz v g many but n = true := by rw [ztb0 c66] at hzb; simpa using hzb.symm
        have hkey : (vkey v p (vfz v g many but)) n = vway v n p + 0 := by unfold vkey; rw [hfz]; rfl
        refine zj_iconstN_1 (n := 70) rfl dX6_placeFor_69 ?_
        refine zj_goto (tgt := 74) dX6_placeFor_70 (by decide) ?_
        refine zj_istore9 (n := 76) rfl dX6_placeFor_74 rfl (Nat.le_of_ble_eq_true rfl) ?_
        refine zj_aload0 (n := 77) rfl dX6_placeFor_76 ?_
        refine zj_iload8 (n := 79) rfl dX6_placeFor_77 ?_
        refine zj_iload3 (n := 80) rfl dX6_placeFor_79 ?_
        refine zj_callV2 (n := 83) (a' := 0) (b' := 0) rfl dX6_placeFor_80 zm_X6_96 (by decide) hi.lt (by rw [hi.ty]; rfl) (Nat.le_of_ble_eq_true rfl) (Nat.le_of_ble_eq_true rfl) (Nat.le_of_ble_eq_true rfl) (Nat.le_of_ble_eq_true rfl) (jX6_wayTo hi hN hn hz0 hp ?_)
        refine zj_iload9 (n := 85) rfl dX6_placeFor_83 ?_
        refine zj_ifN_eq (n := 88) (tgt := 92) rfl dX6_placeFor_85 (by decide) (by omega) (fun h => absurd h (by decide)) (fun _ => ?_)
        refine zj_iconstN_0 (n := 89) rfl dX6_placeFor_88 ?_
        refine zj_goto (tgt := 95) dX6_placeFor_89 (by decide) ?_
        refine zj_iaddN (n := 96) rfl dX6_placeFor_95 ?_
        refine zj_istore10 (n := 98) rfl dX6_placeFor_96 rfl (Nat.le_of_ble_eq_true rfl) ?_
        refine zj_iload6 (n := 100) rfl dX6_placeFor_98 ?_
        refine zj_iconst_m1 (n := 101) rfl dX6_placeFor_100 ?_
        refine zj_icmpO_eq (n := 104) (tgt := 111) rfl dX6_placeFor_101 (by decide) (fun m hm => by have := (vbest_min (can := (vcan v g many few)) (K := (vkey v p (vfz v g many but))) n).1; rw [hm] at this; have := this.1; omega) (fun c101 => ?_) (fun m101 c101 => ?_)
        · refine zj_iload8 (n := 113) rfl dX6_placeFor_111 ?_
          refine zj_istore6 (n := 115) rfl dX6_placeFor_113 rfl (Nat.le_of_ble_eq_true rfl) ?_
          refine zj_iload10 (n := 117) rfl dX6_placeFor_115 ?_
          refine zj_istore7 (n := 119) rfl dX6_placeFor_117 rfl (Nat.le_of_ble_eq_true rfl) ?_
          refine zj_iincN8 (n := 122) rfl dX6_placeFor_119 rfl (Nat.le_of_ble_eq_true rfl) ?_
          refine zj_goto (tgt := 28) dX6_placeFor_122 (by decide) ?_
          refine zj_keep [true, true, true, true, true, true, true, true, true, false, false] ?_
          rw [hcan] at c48
          rw [vbest_t (by rw [c48, c101]; rfl), hkey] at hk
          exact hk
        · refine zj_iload10 (n := 106) rfl dX6_placeFor_104 ?_
          refine zj_iload7 (n := 108) rfl dX6_placeFor_106 ?_
          refine zj_icmpN_ge (n := 111) (tgt := 119) rfl dX6_placeFor_108 (by decide) (by first | omega | (have := hbk m101 c101; omega)) (by first | omega | (have := hbk m101 c101; omega)) (fun c108 => ?_) (fun c108 => ?_)
          · refine zj_iincN8 (n := 122) rfl dX6_placeFor_119 rfl (Nat.le_of_ble_eq_true rfl) ?_
            refine zj_goto (tgt := 28) dX6_placeFor_122 (by decide) ?_
            refine zj_keep [true, true, true, true, true, true, true, true, true, false, false] ?_
            rw [hcan] at c48
            rw [vbest_f (by rw [c48, c101, hkey, decide_eq_false (by omega)]; rfl)] at hk
            exact hk
          · refine zj_iload8 (n := 113) rfl dX6_placeFor_111 ?_
            refine zj_istore6 (n := 115) rfl dX6_placeFor_113 rfl (Nat.le_of_ble_eq_true rfl) ?_
            refine zj_iload10 (n := 117) rfl dX6_placeFor_115 ?_
            refine zj_istore7 (n := 119) rfl dX6_placeFor_117 rfl (Nat.le_of_ble_eq_true rfl) ?_
            refine zj_iincN8 (n := 122) rfl dX6_placeFor_119 rfl (Nat.le_of_ble_eq_true rfl) ?_
            refine zj_goto (tgt := 28) dX6_placeFor_122 (by decide) ?_
            refine zj_keep [true, true, true, true, true, true, true, true, true, false, false] ?_
            rw [hcan] at c48
            rw [vbest_t (by rw [c48, c101, hkey, decide_eq_true c108]; rfl), hkey] at hk
            exact hk
  · skip
    refine zj_iload8 (n := 30) rfl dX6_placeFor_28 ?_
    refine zj_aload0 (n := 31) rfl dX6_placeFor_30 ?_
    refine zj_getr (n := 34) (q := r + 1) rfl dX6_placeFor_31 zf_X6_14 rfl hi.lt hi.ty rfl ?_
    refine zj_getiN (e := v 6) (n := 37) rfl dX6_placeFor_34 zf_X6_55 rfl (hi.ltc (c := 1) (by decide)) (hi.ty1 (c := 1) (by decide)) hN.1.2.2.2.1 ?_
    refine zj_icmpN_ge (n := 40) (tgt := 125) rfl dX6_placeFor_37 (by decide) (by omega) (by omega) (fun c37 => ?_) (fun c37 => by omega)
    refine zj_iload6 (n := 127) rfl dX6_placeFor_125 ?_
    exact zj_ireturn dX6_placeFor_127 rfl rfl (zQi h (congrArg zo (by
  rcases Nat.eq_zero_or_pos (v 6) with q | q
  · rw [h60 q, q]; rfl
  · exact (vbest_place q (fun n hn => (hz n hn).1) hd hp).symm)))
