/-! THE START: the picture of the memory, the law from its entry -/
theorem zq_142 : Cond.instantiable "RepairAuction" 7 ∈ zTB := zq 142 (by decide +kernel) rfl
theorem zq_1459 : Cond.instantiable "RepairAuctionModel" 30 ∈ zTB := zq 1459 (by decide +kernel) rfl
theorem zq_141 : Cond.classLink "RepairAuctionLaw" 8 "RepairAuction" ∈ zTB := zq 141 (by decide +kernel) rfl
theorem zq_1458 : Cond.classLink "RepairAuctionLaw" 147 "RepairAuctionModel" ∈ zTB := zq 1458 (by decide +kernel) rfl
theorem zq_143 : Cond.methodLink "RepairAuctionLaw" 146 ⟨"RepairAuction", "<init>", "()V"⟩ ∈ zTB := zq 143 (by decide +kernel) rfl
theorem zq_144 : Cond.instanceMethod ⟨"RepairAuction", "<init>", "()V"⟩ ∈ zTB := zq 144 (by decide +kernel) rfl
theorem zq_145 : Cond.code ⟨"RepairAuction", "<init>", "()V"⟩ prog_1_method_1_code 1 none ∈ zTB := zq 145 (by decide +kernel) rfl
theorem zs_L_146 : zSi RL 146 yX9_init cX9_init 1 0 := ⟨Or.inl zq_143, zq_144, zq_115, zq_145, by decide +kernel, by decide +kernel, rfl⟩
theorem zq_1460 : Cond.methodLink "RepairAuctionLaw" 149 ⟨"RepairAuctionModel", "<init>", "()V"⟩ ∈ zTB := zq 1460 (by decide +kernel) rfl
theorem zq_1461 : Cond.instanceMethod ⟨"RepairAuctionModel", "<init>", "()V"⟩ ∈ zTB := zq 1461 (by decide +kernel) rfl
theorem zq_1462 : Cond.code ⟨"RepairAuctionModel", "<init>", "()V"⟩ prog_12_method_7_code 1 none ∈ zTB := zq 1462 (by decide +kernel) rfl
theorem zs_L_149 : zSi RL 149 yX10_init cX10_init 1 0 := ⟨Or.inl zq_1460, zq_1461, zq_125, zq_1462, by decide +kernel, by decide +kernel, rfl⟩
theorem zg_ao : lw_tbl[362]? = some (Cond.arrayOver (.object "RepairAuction$Ring")) := by decide +kernel
section
variable {s : State} {args : Array Value}
theorem zac_of {ty : FieldType} (h : (Cond.arrayClass ty).before args s = true) : ∃ cA : ClassId, ArrOfT s cA ty ∧ s.vm.findClass ("[" ++ ty.toString) = some cA := by
  obtain ⟨cA, kA, comp, h1, h2, h3⟩ := Cond.arrayClass_spec h
  exact ⟨cA, fun n z => ⟨fun k h => (by cases h), kA, h2, comp, h3⟩, h1⟩
theorem zac_ring (h : (Cond.arrayOver (.object "RepairAuction$Ring")).before args s = true) : ∃ cA : ClassId, ArrOfT s cA (.object "RepairAuction$Ring") ∧ va_RA s cA (.object "RepairAuction$Ring") := by
  obtain ⟨comp, c, k, h1, h2, h3, h4, h5⟩ := Cond.arrayOver_spec h
  exact ⟨c, fun n z => ⟨fun k h => (by cases h), k, h3, comp, h4⟩, k, comp, h3, h4, h1, h5⟩
theorem zK_of (hts : ∀ w ∈ lw_tbl, w.before args s = true) : ∃ (D : va_G) (cy : Nat → ClassId), va_K D vwCl (zTys cy) s := by
  have htb : ∀ w ∈ zTB, w.before args s = true := fun w hw => hts w (List.mem_filter.mp hw).1
  obtain ⟨d0, j0, k0⟩ := u_known (C := RX0) (T := TX0) (N := 6) (n := 6) htb zuw_X0 (htb _ zq_285)
  obtain ⟨d1, j1, k1⟩ := u_known (C := RX1) (T := TX1) (N := 2) (n := 2) htb zuw_X1 (htb _ zq_150)
  obtain ⟨d2, j2, k2⟩ := u_known (C := RX2) (T := TX2) (N := 4) (n := 4) htb zuw_X2 (htb _ zq_330)
  obtain ⟨d3, j3, k3⟩ := u_known (C := RX4) (T := TX4) (N := 1) (n := 1) htb zuw_X4 (htb _ zq_291)
  obtain ⟨d4, j4, k4⟩ := u_known (C := RX5) (T := TX5) (N := 8) (n := 8) htb zuw_X5 (htb _ zq_169)
  obtain ⟨d5, j5, k5⟩ := u_known (C := RX6) (T := TX6) (N := 10) (n := 10) htb zuw_X6 (htb _ zq_175)
  obtain ⟨d6, j6, k6⟩ := u_known (C := RX7) (T := TX7) (N := 3) (n := 3) htb zuw_X7 (htb _ zq_181)
  obtain ⟨d7, j7, k7⟩ := u_known (C := RX8) (T := TX8) (N := 3) (n := 3) htb zuw_X8 (htb _ zq_356)
  obtain ⟨d8, j8, k8⟩ := u_known (C := RX9) (T := TX9) (N := 7) (n := 7) htb zuw_X9 (htb _ zq_142)
  obtain ⟨d9, j9, k9⟩ := u_known (C := RX10) (T := TX10) (N := 30) (n := 30) htb zuw_X10 (htb _ zq_1459)
  obtain ⟨c0, a0, b0⟩ := zac_of (htb _ zka_int)
  obtain ⟨c1, a1, b1⟩ := zac_of (htb _ zka_byte)
  obtain ⟨c2, a2, b2⟩ := zac_of (htb _ zka_long)
  obtain ⟨c3, a3, b3⟩ := zac_of (htb _ zka_double)
  obtain ⟨c4, a4, b4⟩ := zac_ring (hts _ (List.mem_of_getElem? zg_ao))
  refine ⟨(fun k => [d0, d1, d2, d3, d4, d5, d6, d7, d8, d9].getD k d0, fun k => [j0, j1, j2, j3, j4, j5, j6, j7, j8, j9].getD k j0), fun k => [c0, c1, c2, c3, c4].getD k c0, fun c q hq => ?_, fun k q hk => ?_⟩
  · match c, hq with
    | 0, hq => cases hq; exact k0
    | 1, hq => cases hq; exact k1
    | 2, hq => cases hq; exact k2
    | 3, hq => cases hq; exact k3
    | 4, hq => cases hq; exact k4
    | 5, hq => cases hq; exact k5
    | 6, hq => cases hq; exact k6
    | 7, hq => cases hq; exact k7
    | 8, hq => cases hq; exact k8
    | 9, hq => cases hq; exact k9
    | c + 10, hq => simp at hq
  · unfold zTys at hk
    match k, hk with
    | 0, hk => cases hk; exact ⟨a0, b0⟩
    | 1, hk => cases hk; exact ⟨a1, b1⟩
    | 2, hk => cases hk; exact ⟨a2, b2⟩
    | 3, hk => cases hk; exact ⟨a3, b3⟩
    | 4, hk => cases hk; exact ⟨a4, b4⟩
    | k + 5, hk => simp at hk
end
theorem zarr_ext {cI : ClassId} {N : Nat} {f g : Nat → Value} (h : ∀ j, j < N → f j = g j) : arrV cI N f = arrV cI N g := by
  unfold arrV
  have e : (fun j : Fin N => f j.val) = fun j : Fin N => g j.val := funext fun j => h j.val j.isLt
  rw [e]
theorem zstep {P : Nat → Prop} (n : Nat) (h : ∀ k, k < n → P k) (hn : P n) : ∀ k, k < n + 1 → P k := fun k hk => by
  rcases Nat.lt_or_ge k n with q | q
  · exact h k q
  · cases (show k = n by omega); exact hn
section
variable {f g kc : Nat → Nat} {q2 q3 b : Nat} {cy : Nat → ClassId} {D : va_G} {A : Nat → Prop} {H : Heap}
theorem zw_at (hP : va_P D vwCl (WL f g q2 q3 cy) H) : ∀ k, k < 133 → va_at D vwCl (zad f g q2 q3 kc b k, zE (zad f g q2 q3 kc b) cy zM0 k) H := by
  have h117 : va_at D vwCl (zad f g q2 q3 kc b 117, zE (zad f g q2 q3 kc b) cy zM0 117) H := by
    have h := hP 45 _ (rfl : (WL f g q2 q3 cy)[45]? = some (f 45, .inl (cy 4, 8, .inr (.inr (.inr (.inr (va_up (va_up (va_up (va_up (va_up (va_up (va_up (va_up (fun _ => none) 0 (some (f 46))) 1 (some (f 55))) 2 (some (f 64))) 3 (some (f 73))) 4 (some (f 82))) 5 (some (f 91))) 6 (some (f 100))) 7 (some (f 109)))))))))
    have h : H[f 45]? = some (arrV (cy 4) 8 (fun j => va_rf ((va_up (va_up (va_up (va_up (va_up (va_up (va_up (va_up (fun _ => none) 0 (some (f 46))) 1 (some (f 55))) 2 (some (f 64))) 3 (some (f 73))) 4 (some (f 82))) 5 (some (f 91))) 6 (some (f 100))) 7 (some (f 109))) j))) := h
    show H[f 45]? = some (arrV (cy 4) 8 (fun j => va_rf (some (zad f g q2 q3 kc b (27 + 9 * j)))))
    refine h.trans (congrArg some (zarr_ext (fun j hj => ?_)))
    rcases (show j = 0 ∨ j = 1 ∨ j = 2 ∨ j = 3 ∨ j = 4 ∨ j = 5 ∨ j = 6 ∨ j = 7 by omega) with rfl | rfl | rfl | rfl | rfl | rfl | rfl | rfl <;> rfl
  have s0 : ∀ k, k < 0 → va_at D vwCl (zad f g q2 q3 kc b k, zE (zad f g q2 q3 kc b) cy zM0 k) H := fun k hk => absurd hk (Nat.not_lt_zero k)
  have s1 := zstep 0 s0 (hP (zps 0) _ zw_c0)
  have s2 := zstep 1 s1 (hP (zps 1) _ zw_c1)
  have s3 := zstep 2 s2 (hP (zps 2) _ zw_c2)
  have s4 := zstep 3 s3 (hP (zps 3) _ zw_c3)
  have s5 := zstep 4 s4 (hP (zps 4) _ zw_c4)
  have s6 := zstep 5 s5 (hP (zps 5) _ zw_c5)
  have s7 := zstep 6 s6 (hP (zps 6) _ zw_c6)
  have s8 := zstep 7 s7 (hP (zps 7) _ zw_c7)
  have s9 := zstep 8 s8 (hP (zps 8) _ zw_c8)
  have s10 := zstep 9 s9 (hP (zps 9) _ zw_c9)
  have s11 := zstep 10 s10 (hP (zps 10) _ zw_c10)
  have s12 := zstep 11 s11 (hP (zps 11) _ zw_c11)
  have s13 := zstep 12 s12 (hP (zps 12) _ zw_c12)
  have s14 := zstep 13 s13 (hP (zps 13) _ zw_c13)
  have s15 := zstep 14 s14 (hP (zps 14) _ zw_c14)
  have s16 := zstep 15 s15 (hP (zps 15) _ zw_c15)
  have s17 := zstep 16 s16 (hP (zps 16) _ zw_c16)
  have s18 := zstep 17 s17 (hP (zps 17) _ zw_c17)
  have s19 := zstep 18 s18 (hP (zps 18) _ zw_c18)
  have s20 := zstep 19 s19 (hP (zps 19) _ zw_c19)
  have s21 := zstep 20 s20 (hP (zps 20) _ zw_c20)
  have s22 := zstep 21 s21 (hP (zps 21) _ zw_c21)
  have s23 := zstep 22 s22 (hP (zps 22) _ zw_c22)
  have s24 := zstep 23 s23 (hP (zps 23) _ zw_c23)
  have s25 := zstep 24 s24 (hP (zps 24) _ zw_c24)
  have s26 := zstep 25 s25 (hP (zps 25) _ zw_c25)
  have s27 := zstep 26 s26 (hP (zps 26) _ zw_c26)
  have s28 := zstep 27 s27 (hP (zps 27) _ zw_c27)
  have s29 := zstep 28 s28 (hP (zps 28) _ zw_c28)
  have s30 := zstep 29 s29 (hP (zps 29) _ zw_c29)
  have s31 := zstep 30 s30 (hP (zps 30) _ zw_c30)
  have s32 := zstep 31 s31 (hP (zps 31) _ zw_c31)
  have s33 := zstep 32 s32 (hP (zps 32) _ zw_c32)
  have s34 := zstep 33 s33 (hP (zps 33) _ zw_c33)
  have s35 := zstep 34 s34 (hP (zps 34) _ zw_c34)
  have s36 := zstep 35 s35 (hP (zps 35) _ zw_c35)
  have s37 := zstep 36 s36 (hP (zps 36) _ zw_c36)
  have s38 := zstep 37 s37 (hP (zps 37) _ zw_c37)
  have s39 := zstep 38 s38 (hP (zps 38) _ zw_c38)
  have s40 := zstep 39 s39 (hP (zps 39) _ zw_c39)
  have s41 := zstep 40 s40 (hP (zps 40) _ zw_c40)
  have s42 := zstep 41 s41 (hP (zps 41) _ zw_c41)
  have s43 := zstep 42 s42 (hP (zps 42) _ zw_c42)
  have s44 := zstep 43 s43 (hP (zps 43) _ zw_c43)
  have s45 := zstep 44 s44 (hP (zps 44) _ zw_c44)
  have s46 := zstep 45 s45 (hP (zps 45) _ zw_c45)
  have s47 := zstep 46 s46 (hP (zps 46) _ zw_c46)
  have s48 := zstep 47 s47 (hP (zps 47) _ zw_c47)
  have s49 := zstep 48 s48 (hP (zps 48) _ zw_c48)
  have s50 := zstep 49 s49 (hP (zps 49) _ zw_c49)
  have s51 := zstep 50 s50 (hP (zps 50) _ zw_c50)
  have s52 := zstep 51 s51 (hP (zps 51) _ zw_c51)
  have s53 := zstep 52 s52 (hP (zps 52) _ zw_c52)
  have s54 := zstep 53 s53 (hP (zps 53) _ zw_c53)
  have s55 := zstep 54 s54 (hP (zps 54) _ zw_c54)
  have s56 := zstep 55 s55 (hP (zps 55) _ zw_c55)
  have s57 := zstep 56 s56 (hP (zps 56) _ zw_c56)
  have s58 := zstep 57 s57 (hP (zps 57) _ zw_c57)
  have s59 := zstep 58 s58 (hP (zps 58) _ zw_c58)
  have s60 := zstep 59 s59 (hP (zps 59) _ zw_c59)
  have s61 := zstep 60 s60 (hP (zps 60) _ zw_c60)
  have s62 := zstep 61 s61 (hP (zps 61) _ zw_c61)
  have s63 := zstep 62 s62 (hP (zps 62) _ zw_c62)
  have s64 := zstep 63 s63 (hP (zps 63) _ zw_c63)
  have s65 := zstep 64 s64 (hP (zps 64) _ zw_c64)
  have s66 := zstep 65 s65 (hP (zps 65) _ zw_c65)
  have s67 := zstep 66 s66 (hP (zps 66) _ zw_c66)
  have s68 := zstep 67 s67 (hP (zps 67) _ zw_c67)
  have s69 := zstep 68 s68 (hP (zps 68) _ zw_c68)
  have s70 := zstep 69 s69 (hP (zps 69) _ zw_c69)
  have s71 := zstep 70 s70 (hP (zps 70) _ zw_c70)
  have s72 := zstep 71 s71 (hP (zps 71) _ zw_c71)
  have s73 := zstep 72 s72 (hP (zps 72) _ zw_c72)
  have s74 := zstep 73 s73 (hP (zps 73) _ zw_c73)
  have s75 := zstep 74 s74 (hP (zps 74) _ zw_c74)
  have s76 := zstep 75 s75 (hP (zps 75) _ zw_c75)
  have s77 := zstep 76 s76 (hP (zps 76) _ zw_c76)
  have s78 := zstep 77 s77 (hP (zps 77) _ zw_c77)
  have s79 := zstep 78 s78 (hP (zps 78) _ zw_c78)
  have s80 := zstep 79 s79 (hP (zps 79) _ zw_c79)
  have s81 := zstep 80 s80 (hP (zps 80) _ zw_c80)
  have s82 := zstep 81 s81 (hP (zps 81) _ zw_c81)
  have s83 := zstep 82 s82 (hP (zps 82) _ zw_c82)
  have s84 := zstep 83 s83 (hP (zps 83) _ zw_c83)
  have s85 := zstep 84 s84 (hP (zps 84) _ zw_c84)
  have s86 := zstep 85 s85 (hP (zps 85) _ zw_c85)
  have s87 := zstep 86 s86 (hP (zps 86) _ zw_c86)
  have s88 := zstep 87 s87 (hP (zps 87) _ zw_c87)
  have s89 := zstep 88 s88 (hP (zps 88) _ zw_c88)
  have s90 := zstep 89 s89 (hP (zps 89) _ zw_c89)
  have s91 := zstep 90 s90 (hP (zps 90) _ zw_c90)
  have s92 := zstep 91 s91 (hP (zps 91) _ zw_c91)
  have s93 := zstep 92 s92 (hP (zps 92) _ zw_c92)
  have s94 := zstep 93 s93 (hP (zps 93) _ zw_c93)
  have s95 := zstep 94 s94 (hP (zps 94) _ zw_c94)
  have s96 := zstep 95 s95 (hP (zps 95) _ zw_c95)
  have s97 := zstep 96 s96 (hP (zps 96) _ zw_c96)
  have s98 := zstep 97 s97 (hP (zps 97) _ zw_c97)
  have s99 := zstep 98 s98 (hP (zps 98) _ zw_c98)
  have s100 := zstep 99 s99 (hP (zps 99) _ zw_c99)
  have s101 := zstep 100 s100 (hP (zps 100) _ zw_c100)
  have s102 := zstep 101 s101 (hP (zps 101) _ zw_c101)
  have s103 := zstep 102 s102 (hP (zps 102) _ zw_c102)
  have s104 := zstep 103 s103 (hP (zps 103) _ zw_c103)
  have s105 := zstep 104 s104 (hP (zps 104) _ zw_c104)
  have s106 := zstep 105 s105 (hP (zps 105) _ zw_c105)
  have s107 := zstep 106 s106 (hP (zps 106) _ zw_c106)
  have s108 := zstep 107 s107 (hP (zps 107) _ zw_c107)
  have s109 := zstep 108 s108 (hP (zps 108) _ zw_c108)
  have s110 := zstep 109 s109 (hP (zps 109) _ zw_c109)
  have s111 := zstep 110 s110 (hP (zps 110) _ zw_c110)
  have s112 := zstep 111 s111 (hP (zps 111) _ zw_c111)
  have s113 := zstep 112 s112 (hP (zps 112) _ zw_c112)
  have s114 := zstep 113 s113 (hP (zps 113) _ zw_c113)
  have s115 := zstep 114 s114 (hP (zps 114) _ zw_c114)
  have s116 := zstep 115 s115 (hP (zps 115) _ zw_c115)
  have s117 := zstep 116 s116 (hP (zps 116) _ zw_c116)
  have s118 := zstep 117 s117 (h117)
  have s119 := zstep 118 s118 (hP (zps 118) _ zw_c118)
  have s120 := zstep 119 s119 (hP (zps 119) _ zw_c119)
  have s121 := zstep 120 s120 (hP (zps 120) _ zw_c120)
  have s122 := zstep 121 s121 (hP (zps 121) _ zw_c121)
  have s123 := zstep 122 s122 (hP (zps 122) _ zw_c122)
  have s124 := zstep 123 s123 (hP (zps 123) _ zw_c123)
  have s125 := zstep 124 s124 (hP (zps 124) _ zw_c124)
  have s126 := zstep 125 s125 (hP (zps 125) _ zw_c125)
  have s127 := zstep 126 s126 (hP (zps 126) _ zw_c126)
  have s128 := zstep 127 s127 (hP (zps 127) _ zw_c127)
  have s129 := zstep 128 s128 (hP (zps 128) _ zw_c128)
  have s130 := zstep 129 s129 (hP (zps 129) _ zw_c129)
  have s131 := zstep 130 s130 (hP (zps 130) _ zw_c130)
  have s132 := zstep 131 s131 (hP (zps 131) _ zw_c131)
  have s133 := zstep 132 s132 (hP (zps 132) _ zw_c132)
  exact s133
theorem zw_P (hP : va_P D vwCl (WL f g q2 q3 cy) H) : va_P D vwCl (zWl (zad f g q2 q3 kc b) cy zM0) H := by
  intro k q hq
  obtain ⟨hk, rfl⟩ := zWl_get' hq
  exact zw_at hP k hk
theorem zw_c117 : (WL f g q2 q3 cy)[zps 117]? = some (zad f g q2 q3 kc b 117, .inl (cy 4, 8, .inr (.inr (.inr (.inr (va_up (va_up (va_up (va_up (va_up (va_up (va_up (va_up (fun _ => none) 0 (some (f 46))) 1 (some (f 55))) 2 (some (f 64))) 3 (some (f 73))) 4 (some (f 82))) 5 (some (f 91))) 6 (some (f 100))) 7 (some (f 109)))))))) := rfl
theorem zw_get : ∀ k, k < 133 → ∃ e : va_E, (WL f g q2 q3 cy)[zps k]? = some (zad f g q2 q3 kc b k, e) := by
  have s0 : ∀ k, k < 0 → ∃ e : va_E, (WL f g q2 q3 cy)[zps k]? = some (zad f g q2 q3 kc b k, e) := fun k hk => absurd hk (Nat.not_lt_zero k)
  have s1 := zstep 0 s0 ⟨_, zw_c0⟩
  have s2 := zstep 1 s1 ⟨_, zw_c1⟩
  have s3 := zstep 2 s2 ⟨_, zw_c2⟩
  have s4 := zstep 3 s3 ⟨_, zw_c3⟩
  have s5 := zstep 4 s4 ⟨_, zw_c4⟩
  have s6 := zstep 5 s5 ⟨_, zw_c5⟩
  have s7 := zstep 6 s6 ⟨_, zw_c6⟩
  have s8 := zstep 7 s7 ⟨_, zw_c7⟩
  have s9 := zstep 8 s8 ⟨_, zw_c8⟩
  have s10 := zstep 9 s9 ⟨_, zw_c9⟩
  have s11 := zstep 10 s10 ⟨_, zw_c10⟩
  have s12 := zstep 11 s11 ⟨_, zw_c11⟩
  have s13 := zstep 12 s12 ⟨_, zw_c12⟩
  have s14 := zstep 13 s13 ⟨_, zw_c13⟩
  have s15 := zstep 14 s14 ⟨_, zw_c14⟩
  have s16 := zstep 15 s15 ⟨_, zw_c15⟩
  have s17 := zstep 16 s16 ⟨_, zw_c16⟩
  have s18 := zstep 17 s17 ⟨_, zw_c17⟩
  have s19 := zstep 18 s18 ⟨_, zw_c18⟩
  have s20 := zstep 19 s19 ⟨_, zw_c19⟩
  have s21 := zstep 20 s20 ⟨_, zw_c20⟩
  have s22 := zstep 21 s21 ⟨_, zw_c21⟩
  have s23 := zstep 22 s22 ⟨_, zw_c22⟩
  have s24 := zstep 23 s23 ⟨_, zw_c23⟩
  have s25 := zstep 24 s24 ⟨_, zw_c24⟩
  have s26 := zstep 25 s25 ⟨_, zw_c25⟩
  have s27 := zstep 26 s26 ⟨_, zw_c26⟩
  have s28 := zstep 27 s27 ⟨_, zw_c27⟩
  have s29 := zstep 28 s28 ⟨_, zw_c28⟩
  have s30 := zstep 29 s29 ⟨_, zw_c29⟩
  have s31 := zstep 30 s30 ⟨_, zw_c30⟩
  have s32 := zstep 31 s31 ⟨_, zw_c31⟩
  have s33 := zstep 32 s32 ⟨_, zw_c32⟩
  have s34 := zstep 33 s33 ⟨_, zw_c33⟩
  have s35 := zstep 34 s34 ⟨_, zw_c34⟩
  have s36 := zstep 35 s35 ⟨_, zw_c35⟩
  have s37 := zstep 36 s36 ⟨_, zw_c36⟩
  have s38 := zstep 37 s37 ⟨_, zw_c37⟩
  have s39 := zstep 38 s38 ⟨_, zw_c38⟩
  have s40 := zstep 39 s39 ⟨_, zw_c39⟩
  have s41 := zstep 40 s40 ⟨_, zw_c40⟩
  have s42 := zstep 41 s41 ⟨_, zw_c41⟩
  have s43 := zstep 42 s42 ⟨_, zw_c42⟩
  have s44 := zstep 43 s43 ⟨_, zw_c43⟩
  have s45 := zstep 44 s44 ⟨_, zw_c44⟩
  have s46 := zstep 45 s45 ⟨_, zw_c45⟩
  have s47 := zstep 46 s46 ⟨_, zw_c46⟩
  have s48 := zstep 47 s47 ⟨_, zw_c47⟩
  have s49 := zstep 48 s48 ⟨_, zw_c48⟩
  have s50 := zstep 49 s49 ⟨_, zw_c49⟩
  have s51 := zstep 50 s50 ⟨_, zw_c50⟩
  have s52 := zstep 51 s51 ⟨_, zw_c51⟩
  have s53 := zstep 52 s52 ⟨_, zw_c52⟩
  have s54 := zstep 53 s53 ⟨_, zw_c53⟩
  have s55 := zstep 54 s54 ⟨_, zw_c54⟩
  have s56 := zstep 55 s55 ⟨_, zw_c55⟩
  have s57 := zstep 56 s56 ⟨_, zw_c56⟩
  have s58 := zstep 57 s57 ⟨_, zw_c57⟩
  have s59 := zstep 58 s58 ⟨_, zw_c58⟩
  have s60 := zstep 59 s59 ⟨_, zw_c59⟩
  have s61 := zstep 60 s60 ⟨_, zw_c60⟩
  have s62 := zstep 61 s61 ⟨_, zw_c61⟩
  have s63 := zstep 62 s62 ⟨_, zw_c62⟩
  have s64 := zstep 63 s63 ⟨_, zw_c63⟩
  have s65 := zstep 64 s64 ⟨_, zw_c64⟩
  have s66 := zstep 65 s65 ⟨_, zw_c65⟩
  have s67 := zstep 66 s66 ⟨_, zw_c66⟩
  have s68 := zstep 67 s67 ⟨_, zw_c67⟩
  have s69 := zstep 68 s68 ⟨_, zw_c68⟩
  have s70 := zstep 69 s69 ⟨_, zw_c69⟩
  have s71 := zstep 70 s70 ⟨_, zw_c70⟩
  have s72 := zstep 71 s71 ⟨_, zw_c71⟩
  have s73 := zstep 72 s72 ⟨_, zw_c72⟩
  have s74 := zstep 73 s73 ⟨_, zw_c73⟩
  have s75 := zstep 74 s74 ⟨_, zw_c74⟩
  have s76 := zstep 75 s75 ⟨_, zw_c75⟩
  have s77 := zstep 76 s76 ⟨_, zw_c76⟩
  have s78 := zstep 77 s77 ⟨_, zw_c77⟩
  have s79 := zstep 78 s78 ⟨_, zw_c78⟩
  have s80 := zstep 79 s79 ⟨_, zw_c79⟩
  have s81 := zstep 80 s80 ⟨_, zw_c80⟩
  have s82 := zstep 81 s81 ⟨_, zw_c81⟩
  have s83 := zstep 82 s82 ⟨_, zw_c82⟩
  have s84 := zstep 83 s83 ⟨_, zw_c83⟩
  have s85 := zstep 84 s84 ⟨_, zw_c84⟩
  have s86 := zstep 85 s85 ⟨_, zw_c85⟩
  have s87 := zstep 86 s86 ⟨_, zw_c86⟩
  have s88 := zstep 87 s87 ⟨_, zw_c87⟩
  have s89 := zstep 88 s88 ⟨_, zw_c88⟩
  have s90 := zstep 89 s89 ⟨_, zw_c89⟩
  have s91 := zstep 90 s90 ⟨_, zw_c90⟩
  have s92 := zstep 91 s91 ⟨_, zw_c91⟩
  have s93 := zstep 92 s92 ⟨_, zw_c92⟩
  have s94 := zstep 93 s93 ⟨_, zw_c93⟩
  have s95 := zstep 94 s94 ⟨_, zw_c94⟩
  have s96 := zstep 95 s95 ⟨_, zw_c95⟩
  have s97 := zstep 96 s96 ⟨_, zw_c96⟩
  have s98 := zstep 97 s97 ⟨_, zw_c97⟩
  have s99 := zstep 98 s98 ⟨_, zw_c98⟩
  have s100 := zstep 99 s99 ⟨_, zw_c99⟩
  have s101 := zstep 100 s100 ⟨_, zw_c100⟩
  have s102 := zstep 101 s101 ⟨_, zw_c101⟩
  have s103 := zstep 102 s102 ⟨_, zw_c102⟩
  have s104 := zstep 103 s103 ⟨_, zw_c103⟩
  have s105 := zstep 104 s104 ⟨_, zw_c104⟩
  have s106 := zstep 105 s105 ⟨_, zw_c105⟩
  have s107 := zstep 106 s106 ⟨_, zw_c106⟩
  have s108 := zstep 107 s107 ⟨_, zw_c107⟩
  have s109 := zstep 108 s108 ⟨_, zw_c108⟩
  have s110 := zstep 109 s109 ⟨_, zw_c109⟩
  have s111 := zstep 110 s110 ⟨_, zw_c110⟩
  have s112 := zstep 111 s111 ⟨_, zw_c111⟩
  have s113 := zstep 112 s112 ⟨_, zw_c112⟩
  have s114 := zstep 113 s113 ⟨_, zw_c113⟩
  have s115 := zstep 114 s114 ⟨_, zw_c114⟩
  have s116 := zstep 115 s115 ⟨_, zw_c115⟩
  have s117 := zstep 116 s116 ⟨_, zw_c116⟩
  have s118 := zstep 117 s117 ⟨_, zw_c117⟩
  have s119 := zstep 118 s118 ⟨_, zw_c118⟩
  have s120 := zstep 119 s119 ⟨_, zw_c119⟩
  have s121 := zstep 120 s120 ⟨_, zw_c120⟩
  have s122 := zstep 121 s121 ⟨_, zw_c121⟩
  have s123 := zstep 122 s122 ⟨_, zw_c122⟩
  have s124 := zstep 123 s123 ⟨_, zw_c123⟩
  have s125 := zstep 124 s124 ⟨_, zw_c124⟩
  have s126 := zstep 125 s125 ⟨_, zw_c125⟩
  have s127 := zstep 126 s126 ⟨_, zw_c126⟩
  have s128 := zstep 127 s127 ⟨_, zw_c127⟩
  have s129 := zstep 128 s128 ⟨_, zw_c128⟩
  have s130 := zstep 129 s129 ⟨_, zw_c129⟩
  have s131 := zstep 130 s130 ⟨_, zw_c130⟩
  have s132 := zstep 131 s131 ⟨_, zw_c131⟩
  have s133 := zstep 132 s132 ⟨_, zw_c132⟩
  exact s133
theorem zw_inj (hD : va_D A (WL f g q2 q3 cy)) : ∀ i j, i < 133 → j < 133 → zad f g q2 q3 kc b i = zad f g q2 q3 kc b j → i = j := by
  intro i j hi hj h
  obtain ⟨e1, h1⟩ := zw_get (f := f) (g := g) (kc := kc) (q2 := q2) (q3 := q3) (b := b) (cy := cy) i hi
  obtain ⟨e2, h2⟩ := zw_get (f := f) (g := g) (kc := kc) (q2 := q2) (q3 := q3) (b := b) (cy := cy) j hj
  exact zps_inj hi hj (hD.1 _ _ _ _ h1 h2 h)
theorem zw_in (hD : va_D A (WL f g q2 q3 cy)) : ∀ i, i < 133 → A (zad f g q2 q3 kc b i) := by
  intro i hi
  obtain ⟨e1, h1⟩ := zw_get (f := f) (g := g) (kc := kc) (q2 := q2) (q3 := q3) (b := b) (cy := cy) i hi
  exact hD.2 _ _ h1
end
/-- the state at the start -/
def zv0 : zV := fun j => if j = 0 then 1 else 0
def zS0 : zLS := ((zv0, 0, fun _ => zv0), (0, fun _ => 0), (0, fun _ => 0), (0, 0))
theorem zM0_tab {k : Nat} (h : zTy k = 6) (j : Nat) : zM0.1 k j = (if j = 0 then nI (if k < 99 then [8, 6, 21, 5].getD (k % 9 / 2) 0 else 4) else 0) := by
  show zM0i k j = _
  unfold zM0i
  rw [if_neg (by rw [h]; decide), if_pos h]
theorem zM0_rf {r : Nat} (h : zRi r) : zRf zM0 r := by
  have h1 := h.le
  have h2 := h.2
  refine ⟨h, ?_, ?_, ?_, ?_⟩
  · rw [zM0_tab (h.ty1 (c := 1) (by decide)), if_pos rfl, if_pos (by omega), show (r + 1) % 9 / 2 = 0 by omega] <;> rfl
  · rw [zM0_tab (h.ty1 (c := 3) (by decide)), if_pos rfl, if_pos (by omega), show (r + 3) % 9 / 2 = 1 by omega] <;> rfl
  · rw [zM0_tab (h.ty1 (c := 5) (by decide)), if_pos rfl, if_pos (by omega), show (r + 5) % 9 / 2 = 2 by omega] <;> rfl
  · rw [zM0_tab (h.ty1 (c := 7) (by decide)), if_pos rfl, if_pos (by omega), show (r + 7) % 9 / 2 = 3 by omega] <;> rfl
theorem zM0_tn {k c cap : Nat} (hb : zTb k) (hc : (if k < 99 then [8, 6, 21, 5].getD (k % 9 / 2) 0 else 4) = c) (hl : zLen (k + 1) = c * cap) (h0 : 0 < c) (h1 : c * cap < 6000) : zTN zM0 k c cap 0 := by
  refine ⟨hb, ?_, hl, ?_, Nat.zero_le _, h0, h1⟩
  · rw [zM0_tab hb.2.1, if_pos rfl, hc]
  · rw [zM0_tab hb.2.1, if_neg (by decide)] <;> rfl
theorem zM0_rg {r : Nat} (h : zRi r) : zTN zM0 (r + 1) 8 16 0 ∧ zTN zM0 (r + 3) 6 6 0 ∧ zTN zM0 (r + 5) 21 10 0 ∧ zTN zM0 (r + 7) 5 40 0 := by
  have h1 := h.le
  have h2 := h.2
  refine ⟨zM0_tn (h.tb (c := 1) (by decide)) ?_ h.l2.1 (by decide) (by decide), zM0_tn (h.tb (c := 3) (by decide)) ?_ h.l2.2.1 (by decide) (by decide), zM0_tn (h.tb (c := 5) (by decide)) ?_ h.l2.2.2.1 (by decide) (by decide), zM0_tn (h.tb (c := 7) (by decide)) ?_ h.l2.2.2.2 (by decide) (by decide)⟩
  · rw [if_pos (by omega), show (r + 1) % 9 / 2 = 0 by omega] <;> rfl
  · rw [if_pos (by omega), show (r + 3) % 9 / 2 = 1 by omega] <;> rfl
  · rw [if_pos (by omega), show (r + 5) % 9 / 2 = 2 by omega] <;> rfl
  · rw [if_pos (by omega), show (r + 7) % 9 / 2 = 3 by omega] <;> rfl
theorem zM0_cl : zCl zM0 zv0 := by
  have h0 : zRi 0 := ⟨by decide, by decide⟩
  obtain ⟨t1, t2, t3, t4⟩ := zM0_rg h0
  refine ⟨⟨h0, ⟨t1, fun n hn => absurd hn (Nat.not_lt_zero n)⟩, ⟨t2, fun n hn => absurd hn (Nat.not_lt_zero n)⟩, ⟨t3, fun n hn => absurd hn (Nat.not_lt_zero n)⟩, ⟨t4, fun n hn => absurd hn (Nat.not_lt_zero n)⟩, fun j hj => ?_⟩, zM0_rf ⟨by decide, by decide⟩, ⟨by unfold zAi; decide, 0, zM0_tn (by unfold zTb; decide +kernel) rfl rfl (by decide) (by decide)⟩, ⟨by unfold zAi; decide, 0, zM0_tn (by unfold zTb; decide +kernel) rfl rfl (by decide) (by decide)⟩⟩
  rcases (show j = 0 ∨ j = 1 ∨ j = 2 ∨ j = 3 ∨ j = 4 ∨ j = 5 by omega) with rfl | rfl | rfl | rfl | rfl | rfl <;> rfl
theorem zM0_119 (j : Nat) : zM0.1 119 j = nI (zv0 j) := by
  show upd (fun _ => 0) (nI 0).toNatClampNeg (nI 1) j = nI (if j = 0 then 1 else 0)
  rw [show (nI 0).toNatClampNeg = 0 from rfl]
  unfold upd
  by_cases q : j = 0
  · rw [if_pos q, if_pos q]
  · rw [if_neg q, if_neg q] <;> rfl
theorem zI_0 : zI zM0 zS0 := by
  have n0 : ∀ i, ¬ i < 0 := Nat.not_lt_zero
  refine ⟨⟨zM0_cl, ⟨Nat.zero_le _, fun i hi => zM0_rf ⟨by omega, by omega⟩, 0, by decide, rfl, rfl, fun i hi => absurd hi (n0 i)⟩, ⟨Or.inl rfl, rfl, Nat.zero_le _, fun j hj => absurd hj (n0 j)⟩, ⟨Or.inr rfl, rfl, Nat.zero_le _, fun j hj => absurd hj (n0 j)⟩, rfl, fun h => absurd rfl h, ?_⟩, ⟨⟨rfl, Or.inl rfl, fun j _ => zM0_119 j⟩, rfl, ⟨Nat.zero_le _, rfl, fun i hi => absurd hi (n0 i)⟩, rfl, fun j hj => absurd hj (n0 j), rfl, rfl, rfl, fun j hj => absurd hj (n0 j)⟩, ?_⟩
  · obtain ⟨t1, t2, t3, t4⟩ := zM0_rg (r := 9) ⟨by decide, by decide⟩
    exact ⟨⟨0, t1⟩, ⟨0, t2⟩, ⟨0, t3⟩, t4, rfl, rfl⟩
  · refine ⟨?_, ⟨fun i hi => absurd hi (n0 i), fun i hi => absurd hi (n0 i), fun i hi => absurd hi (n0 i)⟩, Nat.zero_le _, fun i hi => absurd hi (n0 i), Nat.zero_le _, Nat.zero_le _, fun j hj => absurd hj (n0 j), Nat.zero_le _⟩
    exact ⟨by decide, by decide, by decide, by decide, by decide, by decide, by decide, by decide, by decide, fun n h => absurd h (n0 n), fun n m h => absurd h (n0 n), fun t h => absurd h (n0 t), fun t h => absurd h (n0 t), fun g s h => absurd h (n0 g), fun g s t h => absurd h (n0 g), fun k h => absurd h (n0 k)⟩
