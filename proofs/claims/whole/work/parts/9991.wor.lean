/-! THE START: classes, worlds, memory -/
def W9 (f : Nat → Nat) : zw := (fun cy => (f 0, .inr (8, [.ref (f 1), .ref (f 3), .ref (f 5), .ref (f 15), .ref (f 24), .ref (f 29), .ref (f 44)])) :: ([((f 1), .inr (1, [.ref (f 2), .int 0])), ((f 2), .inl (cy 1, 1400, .inl (fun _ => 0)))] ++ [((f 3), .inr (1, [.ref (f 4), .int 0])), ((f 4), .inl (cy 1, 200, .inl (fun _ => 0)))] ++ (((f 5), .inr (4, [.ref (f 1), .ref (f 6), .int 0, .int 0, .int 0, .int 0, .int 0, .int 0])) :: (wRing (f 6) (f 7) (f 8) (f 9) (f 10) (f 11) (f 12) (f 13) (f 14) cy)) ++ (wRing (f 15) (f 16) (f 17) (f 18) (f 19) (f 20) (f 21) (f 22) (f 23) cy) ++ (wAuc (f 24) (f 25) (f 26) (f 27) (f 28) cy) ++ (((f 29), .inr (2, [.ref (f 30), .ref (f 39), .int 0, .long 0])) :: ((wRing (f 30) (f 31) (f 32) (f 33) (f 34) (f 35) (f 36) (f 37) (f 38) cy) ++ (wAuc (f 39) (f 40) (f 41) (f 42) (f 43) cy))) ++ ([((f 44), .inr (7, [.ref (f 45), .int 0, .int 0])), ((f 45), .inl (cy 4, 8, .inr (.inr (.inr (.inr (va_up (va_up (va_up (va_up (va_up (va_up (va_up (va_up (fun _ => none) 0 (some (f 46))) 1 (some (f 55))) 2 (some (f 64))) 3 (some (f 73))) 4 (some (f 82))) 5 (some (f 91))) 6 (some (f 100))) 7 (some (f 109))))))))] ++ ((wRing (f 46) (f 47) (f 48) (f 49) (f 50) (f 51) (f 52) (f 53) (f 54) cy) ++ (wRing (f 55) (f 56) (f 57) (f 58) (f 59) (f 60) (f 61) (f 62) (f 63) cy) ++ (wRing (f 64) (f 65) (f 66) (f 67) (f 68) (f 69) (f 70) (f 71) (f 72) cy) ++ (wRing (f 73) (f 74) (f 75) (f 76) (f 77) (f 78) (f 79) (f 80) (f 81) cy) ++ (wRing (f 82) (f 83) (f 84) (f 85) (f 86) (f 87) (f 88) (f 89) (f 90) cy) ++ (wRing (f 91) (f 92) (f 93) (f 94) (f 95) (f 96) (f 97) (f 98) (f 99) cy) ++ (wRing (f 100) (f 101) (f 102) (f 103) (f 104) (f 105) (f 106) (f 107) (f 108) cy) ++ (wRing (f 109) (f 110) (f 111) (f 112) (f 113) (f 114) (f 115) (f 116) (f 117) cy)))))
def W10 (g : Nat → Nat) : zw := (fun cy => [(g 0, .inr (9, [.int 0, .ref (g 1), .ref (g 2), .ref (g 1), .int 0, .ref (g 3), .ref (g 4), .ref (g 5), .ref (g 6), .ref (g 7), .ref (g 8), .int 0, .int 0, .int 0, .long 0, .int 0, .ref (g 9), .int 0, .int 0, .int 0, .int 0, .int 0, .int 0, .int 0, .int (-1), .ref (g 10), .ref (g 11), .int 0, .ref (g 12), .int 0])), ((g 1), .inl (cy 0, 698, .inl (upd (fun _ => 0) (nI 0).toNatClampNeg (nI 1)))), ((g 2), .inl (cy 0, 698, .inl (fun _ => 0))), ((g 3), .inl (cy 2, 11, .inr (.inl (fun _ => 0)))), ((g 4), .inl (cy 0, 10, .inl (fun _ => 0))), ((g 5), .inl (cy 0, 10, .inl (fun _ => 0))), ((g 6), .inl (cy 0, 10, .inl (fun _ => 0))), ((g 7), .inl (cy 0, 10, .inl (fun _ => 0))), ((g 8), .inl (cy 0, 10, .inl (fun _ => 0))), ((g 9), .inl (cy 1, 1400, .inl (fun _ => 0))), ((g 10), .inl (cy 0, 698, .inl (fun _ => 0))), ((g 11), .inl (cy 0, 5584, .inl (fun _ => 0))), ((g 12), .inl (cy 1, 300, .inl (fun _ => 0)))])
def WL (f g : Nat → Nat) (q2 q3 : Nat) : zw := fun cy => ((W9 f cy ++ W10 g cy) ++ [(q2, .inl (cy 2, 1, .inr (.inl (fun _ => 0))))]) ++ [(q3, .inl (cy 3, 1, .inr (.inr (.inr (.inl (fun _ => 0))))))]
/-- the memory behind the constructors -/
def zM0i (k j : Nat) : Int32 := if zTy k = 5 then (if j = 4 then nI 1 else 0) else if zTy k = 6 then (if j = 0 then nI (if k < 99 then [8, 6, 21, 5].getD (k % 9 / 2) 0 else 4) else 0) else if k = 119 then upd (fun _ => 0) (nI 0).toNatClampNeg (nI 1) j else if k = 118 then (if j = 24 then -1 else 0) else 0
def zM0 : zM := (zM0i, fun _ _ => 0, fun _ _ => 0, 119)
/-- where a cell stands in the world -/
def zps (k : Nat) : Nat := if k ≤ 8 then 15 + k else if k ≤ 17 then k - 3 else if k ≤ 26 then k + 12 else if k ≤ 98 then k + 19 else if k ≤ 104 then k - 99 else if k ≤ 110 then k - 81 else if k ≤ 117 then k - 72 else if k = 127 then 128 else if k = 128 then 129 else if k = 129 then 127 else k
def zpi (k : Nat) : Nat := if k ≤ 5 then k + 99 else if k ≤ 14 then k + 3 else if k ≤ 23 then k - 15 else if k ≤ 29 then k + 81 else if k ≤ 38 then k - 12 else if k ≤ 45 then k + 72 else if k ≤ 117 then k - 19 else if k = 128 then 127 else if k = 129 then 128 else if k = 127 then 129 else k
theorem zpi_ps : ∀ k, k < 133 → zpi (zps k) = k := by decide +kernel
theorem zps_inj {i j : Nat} (hi : i < 133) (hj : j < 133) (h : zps i = zps j) : i = j := by rw [← zpi_ps i hi, ← zpi_ps j hj, h]
def zad (f g : Nat → Nat) (q2 q3 : Nat) (kc : Nat → Nat) (b k : Nat) : Nat := if k < 133 then (if zps k < 118 then f (zps k) else if zps k < 131 then g (zps k - 118) else if k = 131 then q2 else q3) else if k = 800 then b else kc k
section
variable {f g kc : Nat → Nat} {q2 q3 b : Nat} {cy : Nat → ClassId}
theorem zw_c0 : (WL f g q2 q3 cy)[zps 0]? = some (zad f g q2 q3 kc b 0, zE (zad f g q2 q3 kc b) cy zM0 0) := rfl
theorem zw_c1 : (WL f g q2 q3 cy)[zps 1]? = some (zad f g q2 q3 kc b 1, zE (zad f g q2 q3 kc b) cy zM0 1) := rfl
theorem zw_c2 : (WL f g q2 q3 cy)[zps 2]? = some (zad f g q2 q3 kc b 2, zE (zad f g q2 q3 kc b) cy zM0 2) := rfl
theorem zw_c3 : (WL f g q2 q3 cy)[zps 3]? = some (zad f g q2 q3 kc b 3, zE (zad f g q2 q3 kc b) cy zM0 3) := rfl
theorem zw_c4 : (WL f g q2 q3 cy)[zps 4]? = some (zad f g q2 q3 kc b 4, zE (zad f g q2 q3 kc b) cy zM0 4) := rfl
theorem zw_c5 : (WL f g q2 q3 cy)[zps 5]? = some (zad f g q2 q3 kc b 5, zE (zad f g q2 q3 kc b) cy zM0 5) := rfl
theorem zw_c6 : (WL f g q2 q3 cy)[zps 6]? = some (zad f g q2 q3 kc b 6, zE (zad f g q2 q3 kc b) cy zM0 6) := rfl
theorem zw_c7 : (WL f g q2 q3 cy)[zps 7]? = some (zad f g q2 q3 kc b 7, zE (zad f g q2 q3 kc b) cy zM0 7) := rfl
theorem zw_c8 : (WL f g q2 q3 cy)[zps 8]? = some (zad f g q2 q3 kc b 8, zE (zad f g q2 q3 kc b) cy zM0 8) := rfl
theorem zw_c9 : (WL f g q2 q3 cy)[zps 9]? = some (zad f g q2 q3 kc b 9, zE (zad f g q2 q3 kc b) cy zM0 9) := rfl
theorem zw_c10 : (WL f g q2 q3 cy)[zps 10]? = some (zad f g q2 q3 kc b 10, zE (zad f g q2 q3 kc b) cy zM0 10) := rfl
theorem zw_c11 : (WL f g q2 q3 cy)[zps 11]? = some (zad f g q2 q3 kc b 11, zE (zad f g q2 q3 kc b) cy zM0 11) := rfl
theorem zw_c12 : (WL f g q2 q3 cy)[zps 12]? = some (zad f g q2 q3 kc b 12, zE (zad f g q2 q3 kc b) cy zM0 12) := rfl
theorem zw_c13 : (WL f g q2 q3 cy)[zps 13]? = some (zad f g q2 q3 kc b 13, zE (zad f g q2 q3 kc b) cy zM0 13) := rfl
theorem zw_c14 : (WL f g q2 q3 cy)[zps 14]? = some (zad f g q2 q3 kc b 14, zE (zad f g q2 q3 kc b) cy zM0 14) := rfl
theorem zw_c15 : (WL f g q2 q3 cy)[zps 15]? = some (zad f g q2 q3 kc b 15, zE (zad f g q2 q3 kc b) cy zM0 15) := rfl
theorem zw_c16 : (WL f g q2 q3 cy)[zps 16]? = some (zad f g q2 q3 kc b 16, zE (zad f g q2 q3 kc b) cy zM0 16) := rfl
theorem zw_c17 : (WL f g q2 q3 cy)[zps 17]? = some (zad f g q2 q3 kc b 17, zE (zad f g q2 q3 kc b) cy zM0 17) := rfl
theorem zw_c18 : (WL f g q2 q3 cy)[zps 18]? = some (zad f g q2 q3 kc b 18, zE (zad f g q2 q3 kc b) cy zM0 18) := rfl
theorem zw_c19 : (WL f g q2 q3 cy)[zps 19]? = some (zad f g q2 q3 kc b 19, zE (zad f g q2 q3 kc b) cy zM0 19) := rfl
theorem zw_c20 : (WL f g q2 q3 cy)[zps 20]? = some (zad f g q2 q3 kc b 20, zE (zad f g q2 q3 kc b) cy zM0 20) := rfl
theorem zw_c21 : (WL f g q2 q3 cy)[zps 21]? = some (zad f g q2 q3 kc b 21, zE (zad f g q2 q3 kc b) cy zM0 21) := rfl
theorem zw_c22 : (WL f g q2 q3 cy)[zps 22]? = some (zad f g q2 q3 kc b 22, zE (zad f g q2 q3 kc b) cy zM0 22) := rfl
theorem zw_c23 : (WL f g q2 q3 cy)[zps 23]? = some (zad f g q2 q3 kc b 23, zE (zad f g q2 q3 kc b) cy zM0 23) := rfl
theorem zw_c24 : (WL f g q2 q3 cy)[zps 24]? = some (zad f g q2 q3 kc b 24, zE (zad f g q2 q3 kc b) cy zM0 24) := rfl
theorem zw_c25 : (WL f g q2 q3 cy)[zps 25]? = some (zad f g q2 q3 kc b 25, zE (zad f g q2 q3 kc b) cy zM0 25) := rfl
theorem zw_c26 : (WL f g q2 q3 cy)[zps 26]? = some (zad f g q2 q3 kc b 26, zE (zad f g q2 q3 kc b) cy zM0 26) := rfl
theorem zw_c27 : (WL f g q2 q3 cy)[zps 27]? = some (zad f g q2 q3 kc b 27, zE (zad f g q2 q3 kc b) cy zM0 27) := rfl
theorem zw_c28 : (WL f g q2 q3 cy)[zps 28]? = some (zad f g q2 q3 kc b 28, zE (zad f g q2 q3 kc b) cy zM0 28) := rfl
theorem zw_c29 : (WL f g q2 q3 cy)[zps 29]? = some (zad f g q2 q3 kc b 29, zE (zad f g q2 q3 kc b) cy zM0 29) := rfl
theorem zw_c30 : (WL f g q2 q3 cy)[zps 30]? = some (zad f g q2 q3 kc b 30, zE (zad f g q2 q3 kc b) cy zM0 30) := rfl
theorem zw_c31 : (WL f g q2 q3 cy)[zps 31]? = some (zad f g q2 q3 kc b 31, zE (zad f g q2 q3 kc b) cy zM0 31) := rfl
theorem zw_c32 : (WL f g q2 q3 cy)[zps 32]? = some (zad f g q2 q3 kc b 32, zE (zad f g q2 q3 kc b) cy zM0 32) := rfl
theorem zw_c33 : (WL f g q2 q3 cy)[zps 33]? = some (zad f g q2 q3 kc b 33, zE (zad f g q2 q3 kc b) cy zM0 33) := rfl
theorem zw_c34 : (WL f g q2 q3 cy)[zps 34]? = some (zad f g q2 q3 kc b 34, zE (zad f g q2 q3 kc b) cy zM0 34) := rfl
theorem zw_c35 : (WL f g q2 q3 cy)[zps 35]? = some (zad f g q2 q3 kc b 35, zE (zad f g q2 q3 kc b) cy zM0 35) := rfl
theorem zw_c36 : (WL f g q2 q3 cy)[zps 36]? = some (zad f g q2 q3 kc b 36, zE (zad f g q2 q3 kc b) cy zM0 36) := rfl
theorem zw_c37 : (WL f g q2 q3 cy)[zps 37]? = some (zad f g q2 q3 kc b 37, zE (zad f g q2 q3 kc b) cy zM0 37) := rfl
theorem zw_c38 : (WL f g q2 q3 cy)[zps 38]? = some (zad f g q2 q3 kc b 38, zE (zad f g q2 q3 kc b) cy zM0 38) := rfl
theorem zw_c39 : (WL f g q2 q3 cy)[zps 39]? = some (zad f g q2 q3 kc b 39, zE (zad f g q2 q3 kc b) cy zM0 39) := rfl
theorem zw_c40 : (WL f g q2 q3 cy)[zps 40]? = some (zad f g q2 q3 kc b 40, zE (zad f g q2 q3 kc b) cy zM0 40) := rfl
theorem zw_c41 : (WL f g q2 q3 cy)[zps 41]? = some (zad f g q2 q3 kc b 41, zE (zad f g q2 q3 kc b) cy zM0 41) := rfl
theorem zw_c42 : (WL f g q2 q3 cy)[zps 42]? = some (zad f g q2 q3 kc b 42, zE (zad f g q2 q3 kc b) cy zM0 42) := rfl
theorem zw_c43 : (WL f g q2 q3 cy)[zps 43]? = some (zad f g q2 q3 kc b 43, zE (zad f g q2 q3 kc b) cy zM0 43) := rfl
theorem zw_c44 : (WL f g q2 q3 cy)[zps 44]? = some (zad f g q2 q3 kc b 44, zE (zad f g q2 q3 kc b) cy zM0 44) := rfl
theorem zw_c45 : (WL f g q2 q3 cy)[zps 45]? = some (zad f g q2 q3 kc b 45, zE (zad f g q2 q3 kc b) cy zM0 45) := rfl
theorem zw_c46 : (WL f g q2 q3 cy)[zps 46]? = some (zad f g q2 q3 kc b 46, zE (zad f g q2 q3 kc b) cy zM0 46) := rfl
theorem zw_c47 : (WL f g q2 q3 cy)[zps 47]? = some (zad f g q2 q3 kc b 47, zE (zad f g q2 q3 kc b) cy zM0 47) := rfl
theorem zw_c48 : (WL f g q2 q3 cy)[zps 48]? = some (zad f g q2 q3 kc b 48, zE (zad f g q2 q3 kc b) cy zM0 48) := rfl
theorem zw_c49 : (WL f g q2 q3 cy)[zps 49]? = some (zad f g q2 q3 kc b 49, zE (zad f g q2 q3 kc b) cy zM0 49) := rfl
theorem zw_c50 : (WL f g q2 q3 cy)[zps 50]? = some (zad f g q2 q3 kc b 50, zE (zad f g q2 q3 kc b) cy zM0 50) := rfl
theorem zw_c51 : (WL f g q2 q3 cy)[zps 51]? = some (zad f g q2 q3 kc b 51, zE (zad f g q2 q3 kc b) cy zM0 51) := rfl
theorem zw_c52 : (WL f g q2 q3 cy)[zps 52]? = some (zad f g q2 q3 kc b 52, zE (zad f g q2 q3 kc b) cy zM0 52) := rfl
theorem zw_c53 : (WL f g q2 q3 cy)[zps 53]? = some (zad f g q2 q3 kc b 53, zE (zad f g q2 q3 kc b) cy zM0 53) := rfl
theorem zw_c54 : (WL f g q2 q3 cy)[zps 54]? = some (zad f g q2 q3 kc b 54, zE (zad f g q2 q3 kc b) cy zM0 54) := rfl
theorem zw_c55 : (WL f g q2 q3 cy)[zps 55]? = some (zad f g q2 q3 kc b 55, zE (zad f g q2 q3 kc b) cy zM0 55) := rfl
theorem zw_c56 : (WL f g q2 q3 cy)[zps 56]? = some (zad f g q2 q3 kc b 56, zE (zad f g q2 q3 kc b) cy zM0 56) := rfl
theorem zw_c57 : (WL f g q2 q3 cy)[zps 57]? = some (zad f g q2 q3 kc b 57, zE (zad f g q2 q3 kc b) cy zM0 57) := rfl
theorem zw_c58 : (WL f g q2 q3 cy)[zps 58]? = some (zad f g q2 q3 kc b 58, zE (zad f g q2 q3 kc b) cy zM0 58) := rfl
theorem zw_c59 : (WL f g q2 q3 cy)[zps 59]? = some (zad f g q2 q3 kc b 59, zE (zad f g q2 q3 kc b) cy zM0 59) := rfl
theorem zw_c60 : (WL f g q2 q3 cy)[zps 60]? = some (zad f g q2 q3 kc b 60, zE (zad f g q2 q3 kc b) cy zM0 60) := rfl
theorem zw_c61 : (WL f g q2 q3 cy)[zps 61]? = some (zad f g q2 q3 kc b 61, zE (zad f g q2 q3 kc b) cy zM0 61) := rfl
theorem zw_c62 : (WL f g q2 q3 cy)[zps 62]? = some (zad f g q2 q3 kc b 62, zE (zad f g q2 q3 kc b) cy zM0 62) := rfl
theorem zw_c63 : (WL f g q2 q3 cy)[zps 63]? = some (zad f g q2 q3 kc b 63, zE (zad f g q2 q3 kc b) cy zM0 63) := rfl
theorem zw_c64 : (WL f g q2 q3 cy)[zps 64]? = some (zad f g q2 q3 kc b 64, zE (zad f g q2 q3 kc b) cy zM0 64) := rfl
theorem zw_c65 : (WL f g q2 q3 cy)[zps 65]? = some (zad f g q2 q3 kc b 65, zE (zad f g q2 q3 kc b) cy zM0 65) := rfl
theorem zw_c66 : (WL f g q2 q3 cy)[zps 66]? = some (zad f g q2 q3 kc b 66, zE (zad f g q2 q3 kc b) cy zM0 66) := rfl
theorem zw_c67 : (WL f g q2 q3 cy)[zps 67]? = some (zad f g q2 q3 kc b 67, zE (zad f g q2 q3 kc b) cy zM0 67) := rfl
theorem zw_c68 : (WL f g q2 q3 cy)[zps 68]? = some (zad f g q2 q3 kc b 68, zE (zad f g q2 q3 kc b) cy zM0 68) := rfl
theorem zw_c69 : (WL f g q2 q3 cy)[zps 69]? = some (zad f g q2 q3 kc b 69, zE (zad f g q2 q3 kc b) cy zM0 69) := rfl
theorem zw_c70 : (WL f g q2 q3 cy)[zps 70]? = some (zad f g q2 q3 kc b 70, zE (zad f g q2 q3 kc b) cy zM0 70) := rfl
theorem zw_c71 : (WL f g q2 q3 cy)[zps 71]? = some (zad f g q2 q3 kc b 71, zE (zad f g q2 q3 kc b) cy zM0 71) := rfl
theorem zw_c72 : (WL f g q2 q3 cy)[zps 72]? = some (zad f g q2 q3 kc b 72, zE (zad f g q2 q3 kc b) cy zM0 72) := rfl
theorem zw_c73 : (WL f g q2 q3 cy)[zps 73]? = some (zad f g q2 q3 kc b 73, zE (zad f g q2 q3 kc b) cy zM0 73) := rfl
theorem zw_c74 : (WL f g q2 q3 cy)[zps 74]? = some (zad f g q2 q3 kc b 74, zE (zad f g q2 q3 kc b) cy zM0 74) := rfl
theorem zw_c75 : (WL f g q2 q3 cy)[zps 75]? = some (zad f g q2 q3 kc b 75, zE (zad f g q2 q3 kc b) cy zM0 75) := rfl
theorem zw_c76 : (WL f g q2 q3 cy)[zps 76]? = some (zad f g q2 q3 kc b 76, zE (zad f g q2 q3 kc b) cy zM0 76) := rfl
theorem zw_c77 : (WL f g q2 q3 cy)[zps 77]? = some (zad f g q2 q3 kc b 77, zE (zad f g q2 q3 kc b) cy zM0 77) := rfl
theorem zw_c78 : (WL f g q2 q3 cy)[zps 78]? = some (zad f g q2 q3 kc b 78, zE (zad f g q2 q3 kc b) cy zM0 78) := rfl
theorem zw_c79 : (WL f g q2 q3 cy)[zps 79]? = some (zad f g q2 q3 kc b 79, zE (zad f g q2 q3 kc b) cy zM0 79) := rfl
theorem zw_c80 : (WL f g q2 q3 cy)[zps 80]? = some (zad f g q2 q3 kc b 80, zE (zad f g q2 q3 kc b) cy zM0 80) := rfl
theorem zw_c81 : (WL f g q2 q3 cy)[zps 81]? = some (zad f g q2 q3 kc b 81, zE (zad f g q2 q3 kc b) cy zM0 81) := rfl
theorem zw_c82 : (WL f g q2 q3 cy)[zps 82]? = some (zad f g q2 q3 kc b 82, zE (zad f g q2 q3 kc b) cy zM0 82) := rfl
theorem zw_c83 : (WL f g q2 q3 cy)[zps 83]? = some (zad f g q2 q3 kc b 83, zE (zad f g q2 q3 kc b) cy zM0 83) := rfl
theorem zw_c84 : (WL f g q2 q3 cy)[zps 84]? = some (zad f g q2 q3 kc b 84, zE (zad f g q2 q3 kc b) cy zM0 84) := rfl
theorem zw_c85 : (WL f g q2 q3 cy)[zps 85]? = some (zad f g q2 q3 kc b 85, zE (zad f g q2 q3 kc b) cy zM0 85) := rfl
theorem zw_c86 : (WL f g q2 q3 cy)[zps 86]? = some (zad f g q2 q3 kc b 86, zE (zad f g q2 q3 kc b) cy zM0 86) := rfl
theorem zw_c87 : (WL f g q2 q3 cy)[zps 87]? = some (zad f g q2 q3 kc b 87, zE (zad f g q2 q3 kc b) cy zM0 87) := rfl
theorem zw_c88 : (WL f g q2 q3 cy)[zps 88]? = some (zad f g q2 q3 kc b 88, zE (zad f g q2 q3 kc b) cy zM0 88) := rfl
theorem zw_c89 : (WL f g q2 q3 cy)[zps 89]? = some (zad f g q2 q3 kc b 89, zE (zad f g q2 q3 kc b) cy zM0 89) := rfl
theorem zw_c90 : (WL f g q2 q3 cy)[zps 90]? = some (zad f g q2 q3 kc b 90, zE (zad f g q2 q3 kc b) cy zM0 90) := rfl
theorem zw_c91 : (WL f g q2 q3 cy)[zps 91]? = some (zad f g q2 q3 kc b 91, zE (zad f g q2 q3 kc b) cy zM0 91) := rfl
theorem zw_c92 : (WL f g q2 q3 cy)[zps 92]? = some (zad f g q2 q3 kc b 92, zE (zad f g q2 q3 kc b) cy zM0 92) := rfl
theorem zw_c93 : (WL f g q2 q3 cy)[zps 93]? = some (zad f g q2 q3 kc b 93, zE (zad f g q2 q3 kc b) cy zM0 93) := rfl
theorem zw_c94 : (WL f g q2 q3 cy)[zps 94]? = some (zad f g q2 q3 kc b 94, zE (zad f g q2 q3 kc b) cy zM0 94) := rfl
theorem zw_c95 : (WL f g q2 q3 cy)[zps 95]? = some (zad f g q2 q3 kc b 95, zE (zad f g q2 q3 kc b) cy zM0 95) := rfl
theorem zw_c96 : (WL f g q2 q3 cy)[zps 96]? = some (zad f g q2 q3 kc b 96, zE (zad f g q2 q3 kc b) cy zM0 96) := rfl
theorem zw_c97 : (WL f g q2 q3 cy)[zps 97]? = some (zad f g q2 q3 kc b 97, zE (zad f g q2 q3 kc b) cy zM0 97) := rfl
theorem zw_c98 : (WL f g q2 q3 cy)[zps 98]? = some (zad f g q2 q3 kc b 98, zE (zad f g q2 q3 kc b) cy zM0 98) := rfl
theorem zw_c99 : (WL f g q2 q3 cy)[zps 99]? = some (zad f g q2 q3 kc b 99, zE (zad f g q2 q3 kc b) cy zM0 99) := rfl
theorem zw_c100 : (WL f g q2 q3 cy)[zps 100]? = some (zad f g q2 q3 kc b 100, zE (zad f g q2 q3 kc b) cy zM0 100) := rfl
theorem zw_c101 : (WL f g q2 q3 cy)[zps 101]? = some (zad f g q2 q3 kc b 101, zE (zad f g q2 q3 kc b) cy zM0 101) := rfl
theorem zw_c102 : (WL f g q2 q3 cy)[zps 102]? = some (zad f g q2 q3 kc b 102, zE (zad f g q2 q3 kc b) cy zM0 102) := rfl
theorem zw_c103 : (WL f g q2 q3 cy)[zps 103]? = some (zad f g q2 q3 kc b 103, zE (zad f g q2 q3 kc b) cy zM0 103) := rfl
theorem zw_c104 : (WL f g q2 q3 cy)[zps 104]? = some (zad f g q2 q3 kc b 104, zE (zad f g q2 q3 kc b) cy zM0 104) := rfl
theorem zw_c105 : (WL f g q2 q3 cy)[zps 105]? = some (zad f g q2 q3 kc b 105, zE (zad f g q2 q3 kc b) cy zM0 105) := rfl
theorem zw_c106 : (WL f g q2 q3 cy)[zps 106]? = some (zad f g q2 q3 kc b 106, zE (zad f g q2 q3 kc b) cy zM0 106) := rfl
theorem zw_c107 : (WL f g q2 q3 cy)[zps 107]? = some (zad f g q2 q3 kc b 107, zE (zad f g q2 q3 kc b) cy zM0 107) := rfl
theorem zw_c108 : (WL f g q2 q3 cy)[zps 108]? = some (zad f g q2 q3 kc b 108, zE (zad f g q2 q3 kc b) cy zM0 108) := rfl
theorem zw_c109 : (WL f g q2 q3 cy)[zps 109]? = some (zad f g q2 q3 kc b 109, zE (zad f g q2 q3 kc b) cy zM0 109) := rfl
theorem zw_c110 : (WL f g q2 q3 cy)[zps 110]? = some (zad f g q2 q3 kc b 110, zE (zad f g q2 q3 kc b) cy zM0 110) := rfl
theorem zw_c111 : (WL f g q2 q3 cy)[zps 111]? = some (zad f g q2 q3 kc b 111, zE (zad f g q2 q3 kc b) cy zM0 111) := rfl
theorem zw_c112 : (WL f g q2 q3 cy)[zps 112]? = some (zad f g q2 q3 kc b 112, zE (zad f g q2 q3 kc b) cy zM0 112) := rfl
theorem zw_c113 : (WL f g q2 q3 cy)[zps 113]? = some (zad f g q2 q3 kc b 113, zE (zad f g q2 q3 kc b) cy zM0 113) := rfl
theorem zw_c114 : (WL f g q2 q3 cy)[zps 114]? = some (zad f g q2 q3 kc b 114, zE (zad f g q2 q3 kc b) cy zM0 114) := rfl
theorem zw_c115 : (WL f g q2 q3 cy)[zps 115]? = some (zad f g q2 q3 kc b 115, zE (zad f g q2 q3 kc b) cy zM0 115) := rfl
theorem zw_c116 : (WL f g q2 q3 cy)[zps 116]? = some (zad f g q2 q3 kc b 116, zE (zad f g q2 q3 kc b) cy zM0 116) := rfl
theorem zw_c118 : (WL f g q2 q3 cy)[zps 118]? = some (zad f g q2 q3 kc b 118, zE (zad f g q2 q3 kc b) cy zM0 118) := rfl
theorem zw_c119 : (WL f g q2 q3 cy)[zps 119]? = some (zad f g q2 q3 kc b 119, zE (zad f g q2 q3 kc b) cy zM0 119) := rfl
theorem zw_c120 : (WL f g q2 q3 cy)[zps 120]? = some (zad f g q2 q3 kc b 120, zE (zad f g q2 q3 kc b) cy zM0 120) := rfl
theorem zw_c121 : (WL f g q2 q3 cy)[zps 121]? = some (zad f g q2 q3 kc b 121, zE (zad f g q2 q3 kc b) cy zM0 121) := rfl
theorem zw_c122 : (WL f g q2 q3 cy)[zps 122]? = some (zad f g q2 q3 kc b 122, zE (zad f g q2 q3 kc b) cy zM0 122) := rfl
theorem zw_c123 : (WL f g q2 q3 cy)[zps 123]? = some (zad f g q2 q3 kc b 123, zE (zad f g q2 q3 kc b) cy zM0 123) := rfl
theorem zw_c124 : (WL f g q2 q3 cy)[zps 124]? = some (zad f g q2 q3 kc b 124, zE (zad f g q2 q3 kc b) cy zM0 124) := rfl
theorem zw_c125 : (WL f g q2 q3 cy)[zps 125]? = some (zad f g q2 q3 kc b 125, zE (zad f g q2 q3 kc b) cy zM0 125) := rfl
theorem zw_c126 : (WL f g q2 q3 cy)[zps 126]? = some (zad f g q2 q3 kc b 126, zE (zad f g q2 q3 kc b) cy zM0 126) := rfl
theorem zw_c127 : (WL f g q2 q3 cy)[zps 127]? = some (zad f g q2 q3 kc b 127, zE (zad f g q2 q3 kc b) cy zM0 127) := rfl
theorem zw_c128 : (WL f g q2 q3 cy)[zps 128]? = some (zad f g q2 q3 kc b 128, zE (zad f g q2 q3 kc b) cy zM0 128) := rfl
theorem zw_c129 : (WL f g q2 q3 cy)[zps 129]? = some (zad f g q2 q3 kc b 129, zE (zad f g q2 q3 kc b) cy zM0 129) := rfl
theorem zw_c130 : (WL f g q2 q3 cy)[zps 130]? = some (zad f g q2 q3 kc b 130, zE (zad f g q2 q3 kc b) cy zM0 130) := rfl
theorem zw_c131 : (WL f g q2 q3 cy)[zps 131]? = some (zad f g q2 q3 kc b 131, zE (zad f g q2 q3 kc b) cy zM0 131) := rfl
theorem zw_c132 : (WL f g q2 q3 cy)[zps 132]? = some (zad f g q2 q3 kc b 132, zE (zad f g q2 q3 kc b) cy zM0 132) := rfl
end
