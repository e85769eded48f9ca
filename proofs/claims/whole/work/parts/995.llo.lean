/-! THE LAW: its loop -/
theorem zloop_lo : ∀ L, L < 6 → ∀ i, i < 6 → nI L - nI 6 < nI i := by decide +kernel
theorem zloop_c {i L : Nat} (hL : L ≤ 3072) (hi : i ≤ L) : nI L - nI 6 < nI i ↔ L < i + 6 := by
  by_cases q : L < 6
  · exact ⟨fun _ => by omega, fun _ => zloop_lo L q i (by omega)⟩
  · rw [pk_sub (by omega), Int32.lt_iff_toInt_lt, nI_toInt (by omega), nI_toInt (by omega)]
    omega
theorem z_next {L i A B : Nat} {xs : Nat → Int32} {Q : Option Value → zM → Prop} {X : String → zM → Prop} {M : zM} (h : zJG (zGL L xs) yL_law cL_law 10 (some .boolean) room_1 Q X A B 28 [some (.ref 800), some (.ref 99), some (.ref 118), some (.ref 131), some (.ref 132), some (.int (nI (i + 6))), none, none, none, none] [] M) : zJG (zGL L xs) yL_law cL_law 10 (some .boolean) room_1 Q X A B 3048 [some (.ref 800), some (.ref 99), some (.ref 118), some (.ref 131), some (.ref 132), some (.int (nI i)), none, none, none, none] [] M := by
  refine zj_iinc5 (n := 3051) rfl dL_law_3048 rfl (zi_6 _) (Nat.le_of_ble_eq_true rfl) ?_
  refine zj_goto (tgt := 28) dL_law_3051 (by decide) ?_
  rw [← nI_add] at h
  exact h
theorem z_switch {L i A B : Nat} {xs : Nat → Int32} {S : zLS} {x : Int32} {Q : Option Value → zM → Prop} {X : String → zM → Prop} {M : zM} (hL : L ≤ 3072) (hi : i + 6 ≤ L) (hI : zI M S) (h : ∀ M' S', zI M' S' → zJG (zGL L xs) yL_law cL_law 10 (some .boolean) room_1 Q X A B 3048 [some (.ref 800), some (.ref 99), some (.ref 118), some (.ref 131), some (.ref 132), some (.int (nI i)), none, none, none, none] [] M') : zJG (zGL L xs) yL_law cL_law 10 (some .boolean) room_1 Q X (A + 4) (B + 24) 45 [some (.ref 800), some (.ref 99), some (.ref 118), some (.ref 131), some (.ref 132), some (.int (nI i)), none, none, none, none] [.int x] M := by
  by_cases hx : x.toInt < 0 ∨ 58 < x.toInt
  · exact zj_tableOut dL_law_45 hx (by decide) (zj_room (a' := A) (b' := B) (by omega) (by omega) (h M S hI))
  · obtain ⟨k, hk, hx9⟩ : ∃ k : Nat, k < 59 ∧ x.toInt = k := ⟨x.toInt.toNat, by omega, by omega⟩
    rcases (show k = 0 ∨ k = 1 ∨ k = 2 ∨ k = 3 ∨ k = 4 ∨ k = 5 ∨ k = 6 ∨ k = 7 ∨ k = 8 ∨ k = 9 ∨ k = 10 ∨ k = 11 ∨ k = 12 ∨ k = 13 ∨ k = 14 ∨ k = 15 ∨ k = 16 ∨ k = 17 ∨ k = 18 ∨ k = 19 ∨ k = 20 ∨ k = 21 ∨ k = 22 ∨ k = 23 ∨ k = 24 ∨ k = 25 ∨ k = 26 ∨ k = 27 ∨ k = 28 ∨ k = 29 ∨ k = 30 ∨ k = 31 ∨ k = 32 ∨ k = 33 ∨ k = 34 ∨ k = 35 ∨ k = 36 ∨ k = 37 ∨ k = 38 ∨ k = 39 ∨ k = 40 ∨ k = 41 ∨ k = 42 ∨ k = 43 ∨ k = 44 ∨ k = 45 ∨ k = 46 ∨ k = 47 ∨ k = 48 ∨ k = 49 ∨ k = 50 ∨ k = 51 ∨ k = 52 ∨ k = 53 ∨ k = 54 ∨ k = 55 ∨ k = 56 ∨ k = 57 ∨ k = 58 by omega) with rfl | rfl | rfl | rfl | rfl | rfl | rfl | rfl | rfl | rfl | rfl | rfl | rfl | rfl | rfl | rfl | rfl | rfl | rfl | rfl | rfl | rfl | rfl | rfl | rfl | rfl | rfl | rfl | rfl | rfl | rfl | rfl | rfl | rfl | rfl | rfl | rfl | rfl | rfl | rfl | rfl | rfl | rfl | rfl | rfl | rfl | rfl | rfl | rfl | rfl | rfl | rfl | rfl | rfl | rfl | rfl | rfl | rfl | rfl
    · exact zj_tableIn (off := 251) (tgt := 296) dL_law_45 (by omega) (by omega) (by rw [hx9]; rfl) (by decide) (zj_room (a' := A + 1) (b' := B + 6) (by omega) (by omega) (z_case0 hL hi hI h))
    · exact zj_tableIn (off := 355) (tgt := 400) dL_law_45 (by omega) (by omega) (by rw [hx9]; rfl) (by decide) (zj_room (a' := A + 1) (b' := B + 6) (by omega) (by omega) (z_case1 hL hi hI h))
    · exact zj_tableIn (off := 391) (tgt := 436) dL_law_45 (by omega) (by omega) (by rw [hx9]; rfl) (by decide) (zj_room (a' := A + 0) (b' := B + 0) (by omega) (by omega) (z_case2 hL hi hI h))
    · exact zj_tableIn (off := 404) (tgt := 449) dL_law_45 (by omega) (by omega) (by rw [hx9]; rfl) (by decide) (zj_room (a' := A + 0) (b' := B + 0) (by omega) (by omega) (z_case3 hL hi hI h))
    · exact zj_tableIn (off := 417) (tgt := 462) dL_law_45 (by omega) (by omega) (by rw [hx9]; rfl) (by decide) (zj_room (a' := A + 0) (b' := B + 0) (by omega) (by omega) (z_case4 hL hi hI h))
    · exact zj_tableIn (off := 430) (tgt := 475) dL_law_45 (by omega) (by omega) (by rw [hx9]; rfl) (by decide) (zj_room (a' := A + 1) (b' := B + 6) (by omega) (by omega) (z_case5 hL hi hI h))
    · exact zj_tableIn (off := 486) (tgt := 531) dL_law_45 (by omega) (by omega) (by rw [hx9]; rfl) (by decide) (zj_room (a' := A + 1) (b' := B + 6) (by omega) (by omega) (z_case6 hL hi hI h))
    · exact zj_tableIn (off := 542) (tgt := 587) dL_law_45 (by omega) (by omega) (by rw [hx9]; rfl) (by decide) (zj_room (a' := A + 2) (b' := B + 12) (by omega) (by omega) (z_case7 hL hi hI h))
    · exact zj_tableIn (off := 610) (tgt := 655) dL_law_45 (by omega) (by omega) (by rw [hx9]; rfl) (by decide) (zj_room (a' := A + 1) (b' := B + 6) (by omega) (by omega) (z_case8 hL hi hI h))
    · exact zj_tableIn (off := 666) (tgt := 711) dL_law_45 (by omega) (by omega) (by rw [hx9]; rfl) (by decide) (zj_room (a' := A + 1) (b' := B + 6) (by omega) (by omega) (z_case9 hL hi hI h))
    · exact zj_tableIn (off := 722) (tgt := 767) dL_law_45 (by omega) (by omega) (by rw [hx9]; rfl) (by decide) (zj_room (a' := A + 2) (b' := B + 12) (by omega) (by omega) (z_case10 hL hi hI h))
    · exact zj_tableIn (off := 790) (tgt := 835) dL_law_45 (by omega) (by omega) (by rw [hx9]; rfl) (by decide) (zj_room (a' := A + 1) (b' := B + 6) (by omega) (by omega) (z_case11 hL hi hI h))
    · exact zj_tableIn (off := 846) (tgt := 891) dL_law_45 (by omega) (by omega) (by rw [hx9]; rfl) (by decide) (zj_room (a' := A + 2) (b' := B + 12) (by omega) (by omega) (z_case12 hL hi hI h))
    · exact zj_tableIn (off := 914) (tgt := 959) dL_law_45 (by omega) (by omega) (by rw [hx9]; rfl) (by decide) (zj_room (a' := A + 1) (b' := B + 6) (by omega) (by omega) (z_case13 hL hi hI h))
    · exact zj_tableIn (off := 991) (tgt := 1036) dL_law_45 (by omega) (by omega) (by rw [hx9]; rfl) (by decide) (zj_room (a' := A + 2) (b' := B + 12) (by omega) (by omega) (z_case14 hL hi hI h))
    · exact zj_tableIn (off := 1059) (tgt := 1104) dL_law_45 (by omega) (by omega) (by rw [hx9]; rfl) (by decide) (zj_room (a' := A + 2) (b' := B + 12) (by omega) (by omega) (z_case15 hL hi hI h))
    · exact zj_tableIn (off := 1127) (tgt := 1172) dL_law_45 (by omega) (by omega) (by rw [hx9]; rfl) (by decide) (zj_room (a' := A + 1) (b' := B + 6) (by omega) (by omega) (z_case16 hL hi hI h))
    · exact zj_tableIn (off := 1183) (tgt := 1228) dL_law_45 (by omega) (by omega) (by rw [hx9]; rfl) (by decide) (zj_room (a' := A + 1) (b' := B + 6) (by omega) (by omega) (z_case17 hL hi hI h))
    · exact zj_tableIn (off := 1239) (tgt := 1284) dL_law_45 (by omega) (by omega) (by rw [hx9]; rfl) (by decide) (zj_room (a' := A + 0) (b' := B + 0) (by omega) (by omega) (z_case18 hL hi hI h))
    · exact zj_tableIn (off := 1252) (tgt := 1297) dL_law_45 (by omega) (by omega) (by rw [hx9]; rfl) (by decide) (zj_room (a' := A + 0) (b' := B + 0) (by omega) (by omega) (z_case19 hL hi hI h))
    · exact zj_tableIn (off := 1265) (tgt := 1310) dL_law_45 (by omega) (by omega) (by rw [hx9]; rfl) (by decide) (zj_room (a' := A + 1) (b' := B + 6) (by omega) (by omega) (z_case20 hL hi hI h))
    · exact zj_tableIn (off := 1321) (tgt := 1366) dL_law_45 (by omega) (by omega) (by rw [hx9]; rfl) (by decide) (zj_room (a' := A + 2) (b' := B + 12) (by omega) (by omega) (z_case21 hL hi hI h))
    · exact zj_tableIn (off := 1389) (tgt := 1434) dL_law_45 (by omega) (by omega) (by rw [hx9]; rfl) (by decide) (zj_room (a' := A + 0) (b' := B + 0) (by omega) (by omega) (z_case22 hL hi hI h))
    · exact zj_tableIn (off := 1430) (tgt := 1475) dL_law_45 (by omega) (by omega) (by rw [hx9]; rfl) (by decide) (zj_room (a' := A + 0) (b' := B + 0) (by omega) (by omega) (z_case23 hL hi hI h))
    · exact zj_tableIn (off := 1443) (tgt := 1488) dL_law_45 (by omega) (by omega) (by rw [hx9]; rfl) (by decide) (zj_room (a' := A + 1) (b' := B + 6) (by omega) (by omega) (z_case24 hL hi hI h))
    · exact zj_tableIn (off := 1499) (tgt := 1544) dL_law_45 (by omega) (by omega) (by rw [hx9]; rfl) (by decide) (zj_room (a' := A + 1) (b' := B + 6) (by omega) (by omega) (z_case25 hL hi hI h))
    · exact zj_tableIn (off := 1562) (tgt := 1607) dL_law_45 (by omega) (by omega) (by rw [hx9]; rfl) (by decide) (zj_room (a' := A + 1) (b' := B + 6) (by omega) (by omega) (z_case26 hL hi hI h))
    · exact zj_tableIn (off := 1618) (tgt := 1663) dL_law_45 (by omega) (by omega) (by rw [hx9]; rfl) (by decide) (zj_room (a' := A + 1) (b' := B + 6) (by omega) (by omega) (z_case27 hL hi hI h))
    · exact zj_tableIn (off := 1674) (tgt := 1719) dL_law_45 (by omega) (by omega) (by rw [hx9]; rfl) (by decide) (zj_room (a' := A + 2) (b' := B + 12) (by omega) (by omega) (z_case28 hL hi hI h))
    · exact zj_tableIn (off := 1742) (tgt := 1787) dL_law_45 (by omega) (by omega) (by rw [hx9]; rfl) (by decide) (zj_room (a' := A + 0) (b' := B + 0) (by omega) (by omega) (z_case29 hL hi hI h))
    · exact zj_tableIn (off := 1755) (tgt := 1800) dL_law_45 (by omega) (by omega) (by rw [hx9]; rfl) (by decide) (zj_room (a' := A + 0) (b' := B + 0) (by omega) (by omega) (z_case30 hL hi hI h))
    · exact zj_tableIn (off := 1768) (tgt := 1813) dL_law_45 (by omega) (by omega) (by rw [hx9]; rfl) (by decide) (zj_room (a' := A + 0) (b' := B + 0) (by omega) (by omega) (z_case31 hL hi hI h))
    · exact zj_tableIn (off := 1781) (tgt := 1826) dL_law_45 (by omega) (by omega) (by rw [hx9]; rfl) (by decide) (zj_room (a' := A + 2) (b' := B + 12) (by omega) (by omega) (z_case32 hL hi hI h))
    · exact zj_tableIn (off := 1837) (tgt := 1882) dL_law_45 (by omega) (by omega) (by rw [hx9]; rfl) (by decide) (zj_room (a' := A + 2) (b' := B + 12) (by omega) (by omega) (z_case33 hL hi hI h))
    · exact zj_tableIn (off := 1893) (tgt := 1938) dL_law_45 (by omega) (by omega) (by rw [hx9]; rfl) (by decide) (zj_room (a' := A + 2) (b' := B + 12) (by omega) (by omega) (z_case34 hL hi hI h))
    · exact zj_tableIn (off := 1977) (tgt := 2022) dL_law_45 (by omega) (by omega) (by rw [hx9]; rfl) (by decide) (zj_room (a' := A + 0) (b' := B + 0) (by omega) (by omega) (z_case35 hL hi hI h))
    · exact zj_tableIn (off := 1990) (tgt := 2035) dL_law_45 (by omega) (by omega) (by rw [hx9]; rfl) (by decide) (zj_room (a' := A + 1) (b' := B + 6) (by omega) (by omega) (z_case36 hL hi hI h))
    · exact zj_tableIn (off := 2046) (tgt := 2091) dL_law_45 (by omega) (by omega) (by rw [hx9]; rfl) (by decide) (zj_room (a' := A + 2) (b' := B + 12) (by omega) (by omega) (z_case37 hL hi hI h))
    · exact zj_tableIn (off := 2114) (tgt := 2159) dL_law_45 (by omega) (by omega) (by rw [hx9]; rfl) (by decide) (zj_room (a' := A + 1) (b' := B + 6) (by omega) (by omega) (z_case38 hL hi hI h))
    · exact zj_tableIn (off := 2170) (tgt := 2215) dL_law_45 (by omega) (by omega) (by rw [hx9]; rfl) (by decide) (zj_room (a' := A + 1) (b' := B + 6) (by omega) (by omega) (z_case39 hL hi hI h))
    · exact zj_tableIn (off := 2226) (tgt := 2271) dL_law_45 (by omega) (by omega) (by rw [hx9]; rfl) (by decide) (zj_room (a' := A + 3) (b' := B + 18) (by omega) (by omega) (z_case40 hL hi hI h))
    · exact zj_tableIn (off := 2294) (tgt := 2339) dL_law_45 (by omega) (by omega) (by rw [hx9]; rfl) (by decide) (zj_room (a' := A + 4) (b' := B + 24) (by omega) (by omega) (z_case41 hL hi hI h))
    · exact zj_tableIn (off := 2374) (tgt := 2419) dL_law_45 (by omega) (by omega) (by rw [hx9]; rfl) (by decide) (zj_room (a' := A + 1) (b' := B + 6) (by omega) (by omega) (z_case42 hL hi hI h))
    · exact zj_tableIn (off := 2430) (tgt := 2475) dL_law_45 (by omega) (by omega) (by rw [hx9]; rfl) (by decide) (zj_room (a' := A + 0) (b' := B + 0) (by omega) (by omega) (z_case43 hL hi hI h))
    · exact zj_tableIn (off := 2443) (tgt := 2488) dL_law_45 (by omega) (by omega) (by rw [hx9]; rfl) (by decide) (zj_room (a' := A + 0) (b' := B + 0) (by omega) (by omega) (z_case44 hL hi hI h))
    · exact zj_tableIn (off := 2456) (tgt := 2501) dL_law_45 (by omega) (by omega) (by rw [hx9]; rfl) (by decide) (zj_room (a' := A + 1) (b' := B + 6) (by omega) (by omega) (z_case45 hL hi hI h))
    · exact zj_tableIn (off := 2512) (tgt := 2557) dL_law_45 (by omega) (by omega) (by rw [hx9]; rfl) (by decide) (zj_room (a' := A + 0) (b' := B + 0) (by omega) (by omega) (z_case46 hL hi hI h))
    · exact zj_tableIn (off := 2525) (tgt := 2570) dL_law_45 (by omega) (by omega) (by rw [hx9]; rfl) (by decide) (zj_room (a' := A + 1) (b' := B + 6) (by omega) (by omega) (z_case47 hL hi hI h))
    · exact zj_tableIn (off := 2581) (tgt := 2626) dL_law_45 (by omega) (by omega) (by rw [hx9]; rfl) (by decide) (zj_room (a' := A + 2) (b' := B + 12) (by omega) (by omega) (z_case48 hL hi hI h))
    · exact zj_tableIn (off := 2649) (tgt := 2694) dL_law_45 (by omega) (by omega) (by rw [hx9]; rfl) (by decide) (zj_room (a' := A + 0) (b' := B + 0) (by omega) (by omega) (z_case49 hL hi hI h))
    · exact zj_tableIn (off := 2662) (tgt := 2707) dL_law_45 (by omega) (by omega) (by rw [hx9]; rfl) (by decide) (zj_room (a' := A + 0) (b' := B + 0) (by omega) (by omega) (z_case50 hL hi hI h))
    · exact zj_tableIn (off := 2675) (tgt := 2720) dL_law_45 (by omega) (by omega) (by rw [hx9]; rfl) (by decide) (zj_room (a' := A + 2) (b' := B + 12) (by omega) (by omega) (z_case51 hL hi hI h))
    · exact zj_tableIn (off := 2743) (tgt := 2788) dL_law_45 (by omega) (by omega) (by rw [hx9]; rfl) (by decide) (zj_room (a' := A + 2) (b' := B + 12) (by omega) (by omega) (z_case52 hL hi hI h))
    · exact zj_tableIn (off := 2820) (tgt := 2865) dL_law_45 (by omega) (by omega) (by rw [hx9]; rfl) (by decide) (zj_room (a' := A + 1) (b' := B + 6) (by omega) (by omega) (z_case53 hL hi hI h))
    · exact zj_tableIn (off := 2864) (tgt := 2909) dL_law_45 (by omega) (by omega) (by rw [hx9]; rfl) (by decide) (zj_room (a' := A + 0) (b' := B + 0) (by omega) (by omega) (z_case54 hL hi hI h))
    · exact zj_tableIn (off := 2877) (tgt := 2922) dL_law_45 (by omega) (by omega) (by rw [hx9]; rfl) (by decide) (zj_room (a' := A + 1) (b' := B + 6) (by omega) (by omega) (z_case55 hL hi hI h))
    · exact zj_tableIn (off := 2921) (tgt := 2966) dL_law_45 (by omega) (by omega) (by rw [hx9]; rfl) (by decide) (zj_room (a' := A + 0) (b' := B + 0) (by omega) (by omega) (z_case56 hL hi hI h))
    · exact zj_tableIn (off := 2934) (tgt := 2979) dL_law_45 (by omega) (by omega) (by rw [hx9]; rfl) (by decide) (zj_room (a' := A + 0) (b' := B + 0) (by omega) (by omega) (z_case57 hL hi hI h))
    · exact zj_tableIn (off := 2947) (tgt := 2992) dL_law_45 (by omega) (by omega) (by rw [hx9]; rfl) (by decide) (zj_room (a' := A + 1) (b' := B + 6) (by omega) (by omega) (z_case58 hL hi hI h))
theorem z_head {L i A B : Nat} {xs : Nat → Int32} {Q : Option Value → zM → Prop} {X : String → zM → Prop} {M : zM} (hL : L ≤ 3072) (hi : i + 6 ≤ L) (h : zJG (zGL L xs) yL_law cL_law 10 (some .boolean) room_1 Q X A B 45 [some (.ref 800), some (.ref 99), some (.ref 118), some (.ref 131), some (.ref 132), some (.int (nI i)), none, none, none, none] [.int (xs i &&& nI 63)] M) : zJG (zGL L xs) yL_law cL_law 10 (some .boolean) room_1 Q X A B 28 [some (.ref 800), some (.ref 99), some (.ref 118), some (.ref 131), some (.ref 132), some (.int (nI i)), none, none, none, none] [] M := by
  refine zj_iload5 (n := 30) rfl dL_law_28 ?_
  refine zj_aload0 (n := 31) rfl dL_law_30 ?_
  refine zj_slen (n := 32) rfl dL_law_31 ?_
  rw [show Int32.ofNat L = nI L from rfl]
  refine zj_bipushN (v := 6) (n := 34) rfl dL_law_32 (by decide) ?_
  refine zj_isub (n := 35) rfl dL_law_34 ?_
  refine zj_icmp_gt (n := 38) (tgt := 3054) rfl dL_law_35 (by decide) (fun c9 => absurd ((zloop_c hL (by omega)).mp c9) (by omega)) (fun _ => ?_)
  refine zj_aload0 (n := 39) rfl dL_law_38 ?_
  refine zj_iload5 (n := 41) rfl dL_law_39 ?_
  refine zj_sldN hL (n := 42) rfl dL_law_41 (by omega) ?_
  refine zj_bipushN (v := 63) (n := 44) rfl dL_law_42 (by decide) ?_
  refine zj_iand (n := 45) rfl dL_law_44 ?_
  exact h
theorem z_exit {L i A B : Nat} {xs : Nat → Int32} {Q : Option Value → zM → Prop} {X : String → zM → Prop} {M : zM} (hL : L ≤ 3072) (hi : i ≤ L) (hi2 : L < i + 6) (h : Q (some (.int (nI 1))) M) : zJG (zGL L xs) yL_law cL_law 10 (some .boolean) room_1 Q X A B 28 [some (.ref 800), some (.ref 99), some (.ref 118), some (.ref 131), some (.ref 132), some (.int (nI i)), none, none, none, none] [] M := by
  refine zj_iload5 (n := 30) rfl dL_law_28 ?_
  refine zj_aload0 (n := 31) rfl dL_law_30 ?_
  refine zj_slen (n := 32) rfl dL_law_31 ?_
  rw [show Int32.ofNat L = nI L from rfl]
  refine zj_bipushN (v := 6) (n := 34) rfl dL_law_32 (by decide) ?_
  refine zj_isub (n := 35) rfl dL_law_34 ?_
  refine zj_icmp_gt (n := 38) (tgt := 3054) rfl dL_law_35 (by decide) (fun _ => ?_) (fun c9 => absurd ((zloop_c hL hi).mpr (by omega)) c9)
  refine zj_iconstN_1 (n := 3055) rfl dL_law_3054 ?_
  exact zj_ireturn dL_law_3055 rfl rfl h
theorem z_loop {L : Nat} {xs : Nat → Int32} {Q : Option Value → zM → Prop} {X : String → zM → Prop} (hL : L ≤ 3072) (hQ : ∀ M, Q (some (.int (nI 1))) M) : ∀ (n i : Nat) (S : zLS) (M : zM), i ≤ L → L < i + 6 * n + 6 → zI M S → zJG (zGL L xs) yL_law cL_law 10 (some .boolean) room_1 Q X (4 * n) (24 * n) 28 [some (.ref 800), some (.ref 99), some (.ref 118), some (.ref 131), some (.ref 132), some (.int (nI i)), none, none, none, none] [] M := by
  intro n
  induction n with
  | zero => intro i S M h1 h2 hI; exact z_exit hL h1 (by omega) (hQ M)
  | succ n ih =>
    intro i S M h1 h2 hI
    by_cases q : L < i + 6
    · exact z_exit hL h1 q (hQ M)
    · refine z_head hL (by omega) ?_
      rw [show 4 * (n + 1) = 4 * n + 4 by omega, show 24 * (n + 1) = 24 * n + 24 by omega]
      exact z_switch hL (by omega) hI (fun M' S' hI' => z_next (ih (i + 6) S' M' (by omega) (by omega) hI'))
