/-! THE START: what the Statement gives of it -/
abbrev zGv : List Cond := flatC (Cond.and given_1 narrow_1)
def zTU (i : Nat) : Term := .static "RepairAuction$Keyword" (zKn.getD i "") "LRepairAuction$Keyword;"
def zTS (i : Nat) : Term := .string "RepairAuctionModel" (zKi.getD i 0)
def zKw : List Nat := [97, 103, 106, 109, 112, 115, 118, 121, 124, 127, 130, 133, 136, 139, 142, 145, 148, 151, 154, 157, 160, 163, 166]
def zTW (i : Nat) : Term := .string "RepairAuction$Keyword" (zKw.getD i 0)
def zTK : Term := .static "RepairAuction" "KEYWORDS" "[LRepairAuction$Keyword;"
def zTX (i : Nat) : Term := .string "RepairAuction" (zXt.getD i (0, "")).1
def zTV (i : Nat) : Term := .field (zTS i) "java/lang/String" "value" "[B"
def ix_ex : List Nat := [4, 12, 16, 21, 27, 51, 34, 42, 61, 100, 112, 125, 139, 154, 170, 187, 205, 224, 244, 265, 287, 310, 334]
theorem zg_ex : ∀ i, i < 23 → zGv[ix_ex.getD i 0]? = some (Cond.exactly (zTU i) "RepairAuction$Keyword") := by decide +kernel
def ix_tx : List Nat := [6, 14, 18, 23, 29, 53, 36, 44, 63, 102, 114, 127, 141, 156, 172, 189, 207, 226, 246, 267, 289, 312, 336]
theorem zg_tx : ∀ i, i < 23 → zGv[ix_tx.getD i 0]? = some (Cond.eq (.field (zTU i) "RepairAuction$Keyword" "text" "Ljava/lang/String;") (zTW i)) := by decide +kernel
def ix_sx : List Nat := [608, 616, 629, 638, 649, 658, 667, 677, 688, 696, 702, 710, 718, 726, 736, 746, 754, 763, 769, 776, 784, 794, 802]
theorem zg_sx : ∀ i, i < 23 → zGv[ix_sx.getD i 0]? = some (Cond.exactly (zTS i) "java/lang/String") := by decide +kernel
def ix_co : List Nat := [609, 617, 630, 639, 650, 659, 668, 678, 689, 697, 703, 711, 719, 727, 737, 747, 755, 764, 770, 777, 785, 795, 803]
theorem zg_co : ∀ i, i < 23 → zGv[ix_co.getD i 0]? = some (Cond.eq (.field (zTS i) "java/lang/String" "coder" "B") (.int 0)) := by decide +kernel
def ix_ar : List Nat := [610, 618, 631, 640, 651, 660, 669, 679, 690, 698, 704, 712, 720, 728, 738, 748, 756, 765, 771, 778, 786, 796, 804]
theorem zg_ar : ∀ i, i < 23 → zGv[ix_ar.getD i 0]? = some (Cond.arrayOf (zTV i) .byte) := by decide +kernel
def ix_le : List Nat := [611, 619, 632, 641, 652, 661, 670, 680, 691, 699, 705, 713, 721, 729, 739, 749, 757, 766, 772, 779, 787, 797, 805]
theorem zg_le : ∀ i, i < 23 → zGv[ix_le.getD i 0]? = some (Cond.eq (.length (zTV i)) (.int (Int32.ofNat (zKl.getD i 0)))) := by decide +kernel
theorem zg_by : ∀ i, i < 23 → ∀ j, j < zKl.getD i 0 → zGv[ix_sx.getD i 0 + 4 + j]? = some (Cond.eq (.elem (zTV i) (.int (Int32.ofNat j))) (.int ((zKb.getD i []).getD j 0))) := by decide +kernel
def ix_sa : List Nat := [819, 833, 843, 855, 865, 898, 876, 888, 907, 914, 923, 932, 941, 952, 963, 972, 982, 989, 997, 1006, 1017, 1026, 1036]
theorem zg_sa : ∀ i, i < 23 → zGv[ix_sa.getD i 0]? = some (Cond.eq (zTS i) (zTW i)) := by decide +kernel
def ix_el : List Nat := [77, 78, 79, 80, 81, 82, 83, 84, 85, 86, 87, 88, 89, 90, 91, 92, 93, 94, 95, 96, 97, 98, 99]
theorem zg_el : ∀ i, i < 23 → zGv[ix_el.getD i 0]? = some (Cond.eq (.elem zTK (.int (Int32.ofNat i))) (zTU i)) := by decide +kernel
def ix_xx : List Nat := [417, 584, 496, 469, 549]
theorem zg_xx : ∀ i, i < 5 → zGv[ix_xx.getD i 0]? = some (Cond.exactly (zTX i) "java/lang/String") := by decide +kernel
def ix_ly : List Nat := [447, 514, 521, 523, 525, 535, 531, 533, 541, 582, 585, 587, 589, 608, 614, 617, 619, 625, 627, 629, 631, 633, 635]
theorem zg_ly : ∀ i, i < 23 → lw_tbl[ix_ly.getD i 0]? = some (Cond.laysStatic "RepairAuction$Keyword" (zKn.getD i "") "LRepairAuction$Keyword;") := by decide +kernel
def ix_sr : List Nat := [1600, 1623, 1633, 1634, 1635, 1636, 1637, 1638, 1647, 1668, 1669, 1670, 1671, 1672, 1673, 1674, 1675, 1676, 1677, 1678, 1679, 1680, 1681]
theorem zg_sr : ∀ i, i < 23 → lw_tbl[ix_sr.getD i 0]? = some (Cond.stringRef "RepairAuctionModel" (zKi.getD i 0) (zKt.getD i "")) := by decide +kernel
def ix_xr : List Nat := [1020, 1420, 1128, 1070, 1289]
theorem zg_xr : ∀ i, i < 5 → lw_tbl[ix_xr.getD i 0]? = some (Cond.stringRef "RepairAuction" (zXt.getD i (0, "")).1 (zXt.getD i (0, "")).2) := by decide +kernel
theorem zg_ka : zGv[74]? = some (Cond.arrayOf zTK (.object "RepairAuction$Keyword")) := by decide +kernel
theorem zg_kl : zGv[75]? = some (Cond.eq (.length zTK) (.int 23)) := by decide +kernel
theorem zg_kly : lw_tbl[568]? = some (Cond.laysStatic "RepairAuction" "KEYWORDS" "[LRepairAuction$Keyword;") := by decide +kernel
theorem zg_cs : zGv[7]? = some (Cond.eq (.static "java/lang/String" "COMPACT_STRINGS" "Z") (.int 1)) := by decide +kernel
theorem zg_csl : lw_tbl[469]? = some (Cond.laysStatic "java/lang/String" "COMPACT_STRINGS" "Z") := by decide +kernel
theorem zg_si : zGv[8]? = some (Cond.isRef (.static "jdk/internal/util/Preconditions" "SIOOBE_FORMATTER" "Ljava/util/function/BiFunction;")) := by decide +kernel
theorem zg_sil : lw_tbl[486]? = some (Cond.laysStatic "jdk/internal/util/Preconditions" "SIOOBE_FORMATTER" "Ljava/util/function/BiFunction;") := by decide +kernel
theorem zg_us : zGv[359]? = some (Cond.isRef (.static "java/lang/Throwable" "UNASSIGNED_STACK" "[Ljava/lang/StackTraceElement;")) := by decide +kernel
theorem zg_usl : lw_tbl[1005]? = some (Cond.laysStatic "java/lang/Throwable" "UNASSIGNED_STACK" "[Ljava/lang/StackTraceElement;") := by decide +kernel
theorem zg_ss : zGv[360]? = some (Cond.isRef (.static "java/lang/Throwable" "SUPPRESSED_SENTINEL" "Ljava/util/List;")) := by decide +kernel
theorem zg_ssl : lw_tbl[1007]? = some (Cond.laysStatic "java/lang/Throwable" "SUPPRESSED_SENTINEL" "Ljava/util/List;") := by decide +kernel
theorem zg_iK : lw_tbl[132]? = some (Cond.initialized "RepairAuction$Keyword") := by decide +kernel
theorem zg_iR : lw_tbl[115]? = some (Cond.initialized "RepairAuction") := by decide +kernel
theorem zg_iS : lw_tbl[133]? = some (Cond.initialized "java/lang/String") := by decide +kernel
theorem zg_iP : lw_tbl[135]? = some (Cond.initialized "jdk/internal/util/Preconditions") := by decide +kernel
theorem zg_iT : lw_tbl[126]? = some (Cond.initialized "java/lang/Throwable") := by decide +kernel
theorem zg_nc01 : zGv[371]? = some (Cond.not (.castable "java/lang/IllegalArgumentException" "java/lang/IllegalStateException")) := by decide +kernel
theorem zg_nc02 : zGv[400]? = some (Cond.not (.castable "java/lang/IllegalArgumentException" "java/lang/IndexOutOfBoundsException")) := by decide +kernel
theorem zg_nc03 : zGv[414]? = some (Cond.not (.castable "java/lang/IllegalArgumentException" "java/util/NoSuchElementException")) := by decide +kernel
theorem zg_nc10 : zGv[385]? = some (Cond.not (.castable "java/lang/IllegalStateException" "java/lang/IllegalArgumentException")) := by decide +kernel
theorem zg_nc12 : zGv[399]? = some (Cond.not (.castable "java/lang/IllegalStateException" "java/lang/IndexOutOfBoundsException")) := by decide +kernel
theorem zg_nc13 : zGv[413]? = some (Cond.not (.castable "java/lang/IllegalStateException" "java/util/NoSuchElementException")) := by decide +kernel
theorem zg_nc20 : zGv[387]? = some (Cond.not (.castable "java/lang/IndexOutOfBoundsException" "java/lang/IllegalArgumentException")) := by decide +kernel
theorem zg_nc21 : zGv[373]? = some (Cond.not (.castable "java/lang/IndexOutOfBoundsException" "java/lang/IllegalStateException")) := by decide +kernel
theorem zg_nc23 : zGv[416]? = some (Cond.not (.castable "java/lang/IndexOutOfBoundsException" "java/util/NoSuchElementException")) := by decide +kernel
theorem zg_nc30 : zGv[388]? = some (Cond.not (.castable "java/util/NoSuchElementException" "java/lang/IllegalArgumentException")) := by decide +kernel
theorem zg_nc31 : zGv[374]? = some (Cond.not (.castable "java/util/NoSuchElementException" "java/lang/IllegalStateException")) := by decide +kernel
theorem zg_nc32 : zGv[402]? = some (Cond.not (.castable "java/util/NoSuchElementException" "java/lang/IndexOutOfBoundsException")) := by decide +kernel
theorem zkl_inj : ∀ i, i < 23 → ∀ j, j < 23 → Int32.ofNat (zKl.getD i 0) = Int32.ofNat (zKl.getD j 0) → zKl.getD i 0 = zKl.getD j 0 := by decide +kernel
theorem zkb_inj : ∀ i, i < 23 → ∀ j, j < 23 → zKl.getD i 0 = zKl.getD j 0 → (∀ k, k < zKl.getD i 0 → (zKb.getD i []).getD k 0 = (zKb.getD j []).getD k 0) → i = j := by decide +kernel
theorem zkl_lt : ∀ i, i < 23 → zKl.getD i 0 < 2 ^ 31 := by decide +kernel
section
variable {s : State} {A : Nat → Prop} {args : Array Value}
theorem zncs_of (hgv : (Cond.and given_1 narrow_1).before args s = true) : zNcs s := by
  have hs := flat_of_before _ hgv
  intro E hE N hN hne
  have e4 : ∀ z, z ∈ zXn → z = "java/lang/IllegalArgumentException" ∨ z = "java/lang/IllegalStateException" ∨ z = "java/lang/IndexOutOfBoundsException" ∨ z = "java/util/NoSuchElementException" := fun z hz => by
    simpa [zXn] using hz
  rcases e4 E hE with rfl | rfl | rfl | rfl <;> rcases e4 N hN with rfl | rfl | rfl | rfl
  · exact absurd rfl hne
  · exact va_Nc.of (hs _ (List.mem_of_getElem? zg_nc01))
  · exact va_Nc.of (hs _ (List.mem_of_getElem? zg_nc02))
  · exact va_Nc.of (hs _ (List.mem_of_getElem? zg_nc03))
  · exact va_Nc.of (hs _ (List.mem_of_getElem? zg_nc10))
  · exact absurd rfl hne
  · exact va_Nc.of (hs _ (List.mem_of_getElem? zg_nc12))
  · exact va_Nc.of (hs _ (List.mem_of_getElem? zg_nc13))
  · exact va_Nc.of (hs _ (List.mem_of_getElem? zg_nc20))
  · exact va_Nc.of (hs _ (List.mem_of_getElem? zg_nc21))
  · exact absurd rfl hne
  · exact va_Nc.of (hs _ (List.mem_of_getElem? zg_nc23))
  · exact va_Nc.of (hs _ (List.mem_of_getElem? zg_nc30))
  · exact va_Nc.of (hs _ (List.mem_of_getElem? zg_nc31))
  · exact va_Nc.of (hs _ (List.mem_of_getElem? zg_nc32))
  · exact absurd rfl hne
/-- a string constant of the model: its cell, its row -/
theorem zstr_of (hgv : (Cond.and given_1 narrow_1).before args s = true) (hA : ∀ a : Nat, a < s.heap.size → ¬ A a) : ∃ adK adV : Nat → Nat, vk_S 23 zKl zKb adK adV A s s.heap ∧ ∀ i : Nat, i < 23 → (zTS i).eval args s none [] s = some (.ref (adK i)) := by
  have hs := flat_of_before _ hgv
  have h0 : ∀ i : Nat, ∃ q : Nat × Nat, i < 23 → (zTS i).eval args s none [] s = some (.ref q.1) ∧ va_O "java/lang/String" q.1 A s s.heap ∧ va_OF "java/lang/String" "coder" "B" (.int 0) q.1 A s s.heap ∧ va_OF "java/lang/String" "value" "[B" (.ref q.2) q.1 A s s.heap ∧ va_T .byte q.2 (zKl.getD i 0) (fun j => .int ((zKb.getD i []).getD j 0)) A s s.heap := by
    intro i
    by_cases hi : i < 23
    · obtain ⟨a, c, cA, kA, q1, q2, q3, q4, q5, q6, -⟩ := Cond.exactly_spec (args := args) (first := s) (o := none) (s := s) (idx := []) (t := zTS i) (cls := "java/lang/String") (hs _ (List.mem_of_getElem? (zg_sx i hi)))
      obtain ⟨t, ht, hT⟩ := va_Tof (f := fun j => .int ((zKb.getD i []).getD j 0)) (A := A) (zkl_lt i hi) (hs _ (List.mem_of_getElem? (zg_ar i hi))) (va_eqt (hs _ (List.mem_of_getElem? (zg_le i hi)))) (fun j hj => va_eqt (hs _ (List.mem_of_getElem? (zg_by i hi j hj)))) hA
      exact ⟨(a, t), fun _ => ⟨q1, ⟨cA, q3, q5, by rw [q6]; exact q2, hA a (Array.getElem?_eq_some_iff.mp q3).1⟩, vk_OFof q1 (va_eqt (hs _ (List.mem_of_getElem? (zg_co i hi)))) hA, vk_OFof q1 ht hA, hT⟩⟩
    · exact ⟨(0, 0), fun h => absurd h hi⟩
  obtain ⟨ad, had⟩ := Classical.axiomOfChoice h0
  refine ⟨fun i => (ad i).1, fun i => (ad i).2, ⟨fun i hi => (had i hi).2, fun i j hi hj e => ?_⟩, fun i hi => (had i hi).1⟩
  obtain ⟨-, -, -, ⟨cf1, k1, i1, f1, cell1, a1, -, c1, -, d1, -⟩, ⟨w1, x1, -, -, y1, z1, v1, -⟩⟩ := had i hi
  obtain ⟨-, -, -, ⟨cf2, k2, i2, f2, cell2, a2, -, c2, -, d2, -⟩, ⟨w2, x2, -, -, y2, z2, v2, -⟩⟩ := had j hj
  have e : (ad i).1 = (ad j).1 := e
  rw [a1] at a2
  cases a2
  rw [e, c2] at c1
  cases c1
  have e2 : (ad i).2 = (ad j).2 := Value.ref.inj (Option.some.inj (d1.symm.trans d2))
  rw [e2, x2] at x1
  cases x1
  have e3 := zkl_inj i hi j hj (z1.symm.trans z2)
  refine zkb_inj i hi j hj e3 (fun k hk => ?_)
  have g1 := v1 k hk
  have g2 := v2 k (by omega)
  exact Value.int.inj (Option.some.inj (g1.symm.trans g2))
/-- the constants -/
theorem zks_of (hts : ∀ w ∈ lw_tbl, w.before args s = true) (hgv : (Cond.and given_1 narrow_1).before args s = true) (hA : ∀ a : Nat, a < s.heap.size → ¬ A a) : ∃ kc : Nat → Nat, ∀ ad : Nat → Nat, (∀ k, 200 ≤ k → k < 701 → ad k = kc k) → zKs ad A s s.heap := by
  have hs := flat_of_before _ hgv
  have T : ∀ {i : Nat} {c : Cond}, lw_tbl[i]? = some c → c.before args s = true := fun h => hts _ (List.mem_of_getElem? h)
  have G : ∀ {i : Nat} {c : Cond}, zGv[i]? = some c → c.before args s = true := fun h => hs _ (List.mem_of_getElem? h)
  obtain ⟨adK, adV, hO, hE⟩ := zstr_of (A := A) hgv hA
  have u0 : ∀ i : Nat, ∃ q : Nat, i < 23 → (zTU i).eval args s none [] s = some (.ref q) := by
    intro i
    by_cases hi : i < 23
    · obtain ⟨a, c, cA, kA, q1, -⟩ := Cond.exactly_spec (args := args) (first := s) (o := none) (s := s) (idx := []) (t := zTU i) (cls := "RepairAuction$Keyword") (G (zg_ex i hi))
      exact ⟨a, fun _ => q1⟩
    · exact ⟨0, fun h => absurd h hi⟩
  obtain ⟨uN, hU⟩ := Classical.axiomOfChoice u0
  have x0 : ∀ i : Nat, ∃ q : Nat, i < 5 → (zTX i).eval args s none [] s = some (.ref q) := by
    intro i
    by_cases hi : i < 5
    · obtain ⟨a, c, cA, kA, q1, -⟩ := Cond.exactly_spec (args := args) (first := s) (o := none) (s := s) (idx := []) (t := zTX i) (cls := "java/lang/String") (G (zg_xx i hi))
      exact ⟨a, fun _ => q1⟩
    · exact ⟨0, fun h => absurd h hi⟩
  obtain ⟨xN, hXN⟩ := Classical.axiomOfChoice x0
  obtain ⟨kt, hkt, hKT⟩ := va_Tof (f := fun j => .ref (uN j)) (A := A) (N := 23) (ty := .object "RepairAuction$Keyword") (tm := zTK) (by decide) (G zg_ka) (va_eqt (G zg_kl)) (fun j hj => va_eqv (G (zg_el j hj)) (hU j hj)) hA
  obtain ⟨fm, hfm⟩ : ∃ fm : Nat, va_Z "jdk/internal/util/Preconditions" "SIOOBE_FORMATTER" "Ljava/util/function/BiFunction;" .null A s s.heap ∨ va_Z "jdk/internal/util/Preconditions" "SIOOBE_FORMATTER" "Ljava/util/function/BiFunction;" (.ref fm) A s s.heap := by
    rcases va_Zqof (T zg_sil) (T zg_iP) (G zg_si) hA with h | ⟨t, h⟩
    · exact ⟨0, Or.inl h⟩
    · exact ⟨t, Or.inr h⟩
  refine ⟨fun k => if k < 300 then uN (k - 200) else if k < 400 then adK (k - 300) else if k = 400 then kt else if k < 600 then xN (k - 500) else if k < 700 then adV (k - 600) else fm, fun ad hd => ?_⟩
  have e2 : ∀ i, i < 23 → ad (200 + i) = uN i := fun i hi => by
    rw [hd _ (by omega) (by omega)]
    show (if 200 + i < 300 then uN (200 + i - 200) else _) = _
    rw [if_pos (by omega), Nat.add_sub_cancel_left]
  have e3 : ∀ i, i < 23 → ad (300 + i) = adK i := fun i hi => by
    rw [hd _ (by omega) (by omega)]
    show (if 300 + i < 300 then _ else if 300 + i < 400 then adK (300 + i - 300) else _) = _
    rw [if_neg (by omega), if_pos (by omega), Nat.add_sub_cancel_left]
  have e4 : ad 400 = kt := by
    rw [hd _ (by omega) (by omega)]
    rfl
  have e5 : ∀ i, i < 5 → ad (500 + i) = xN i := fun i hi => by
    rw [hd _ (by omega) (by omega)]
    show (if 500 + i < 300 then _ else if 500 + i < 400 then _ else if 500 + i = 400 then _ else if 500 + i < 600 then xN (500 + i - 500) else _) = _
    rw [if_neg (by omega), if_neg (by omega), if_neg (by omega), if_pos (by omega), Nat.add_sub_cancel_left]
  have e6 : ∀ i, i < 23 → ad (600 + i) = adV i := fun i hi => by
    rw [hd _ (by omega) (by omega)]
    show (if 600 + i < 300 then _ else if 600 + i < 400 then _ else if 600 + i = 400 then _ else if 600 + i < 600 then _ else if 600 + i < 700 then adV (600 + i - 600) else _) = _
    rw [if_neg (by omega), if_neg (by omega), if_neg (by omega), if_neg (by omega), if_pos (by omega), Nat.add_sub_cancel_left]
  have e7 : ad 700 = fm := by
    rw [hd _ (by omega) (by omega)]
    rfl
  refine ⟨fun i hi => ?_, fun i hi => ?_, ⟨⟨fun i hi => ?_, fun i j hi hj e => ?_⟩, ?_, ?_⟩, ?_, ?_, fun i hi => ?_, fun i hi => ?_, ?_, ?_, fun w hw => ?_⟩
  · rw [e2 i hi]
    exact va_Zof (T (zg_ly i hi)) (T zg_iK) (hU i hi) hA
  · rw [e2 i hi, e3 i hi]
    exact vk_OFof (hU i hi) (va_eqv (G (zg_tx i hi)) (va_eqR (G (zg_sa i hi)) (hE i hi))) hA
  · show va_O "java/lang/String" (ad (300 + i)) A s s.heap ∧ va_OF "java/lang/String" "coder" "B" (.int 0) (ad (300 + i)) A s s.heap ∧ va_OF "java/lang/String" "value" "[B" (.ref (ad (600 + i))) (ad (300 + i)) A s s.heap ∧ va_T .byte (ad (600 + i)) (zKl.getD i 0) (fun j => .int ((zKb.getD i []).getD j 0)) A s s.heap
    rw [e3 i hi, e6 i hi]
    exact hO.1 i hi
  · have e : ad (300 + i) = ad (300 + j) := e
    rw [e3 i hi, e3 j hj] at e
    exact hO.2 i j hi hj e
  · exact va_Zof (T zg_csl) (T zg_iS) (va_eqi (G zg_cs)) hA
  · rw [e7]
    exact hfm
  · rw [e4]
    exact va_Zof (T zg_kly) (T zg_iR) hkt hA
  · rw [e4]
    obtain ⟨cell, h1, h2, h3, h4, h5, h6, h7⟩ := hKT
    exact ⟨cell, h1, h2, h3, h4, h5, fun j hj => by rw [h6 j hj]; show _ = some (Value.ref (ad (200 + j))); rw [e2 j hj], h7⟩
  · rw [e3 i hi]
    exact vk_R.of (T (zg_sr i hi)) (hE i hi)
  · rw [e5 i hi]
    exact vk_R.of (T (zg_xr i hi)) (hXN i hi)
  · exact vx_Zqof (T zg_usl) (T zg_iT) (G zg_us) hA
  · exact vx_Zqof (T zg_ssl) (T zg_iT) (G zg_ss) hA
  · exact va_Nw.of (zNk_on (List.mem_filter.mp hw).2) (hts w (List.mem_filter.mp hw).1)
end
