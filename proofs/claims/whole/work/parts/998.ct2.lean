/-! CONSTRUCTORS: the class and the model -/
theorem zq_149 : Cond.classLink "RepairAuction" 9 "RepairAuction$Bytes" ∈ zTB := zq 149 (by decide +kernel) rfl
theorem zq_150 : Cond.instantiable "RepairAuction$Bytes" 2 ∈ zTB := zq 150 (by decide +kernel) rfl
theorem zq_151 : Cond.methodLink "RepairAuction" 11 ⟨"RepairAuction$Bytes", "<init>", "(I)V"⟩ ∈ zTB := zq 151 (by decide +kernel) rfl
theorem zq_152 : Cond.instanceMethod ⟨"RepairAuction$Bytes", "<init>", "(I)V"⟩ ∈ zTB := zq 152 (by decide +kernel) rfl
theorem zq_153 : Cond.code ⟨"RepairAuction$Bytes", "<init>", "(I)V"⟩ prog_3_method_1_code 2 none ∈ zTB := zq 153 (by decide +kernel) rfl
theorem zs_X9_11 : zSi RX9 11 yX1_init cX1_init 2 1 := ⟨Or.inl zq_151, zq_152, zq_116, zq_153, by decide +kernel, by decide +kernel, rfl⟩
theorem zq_168 : Cond.classLink "RepairAuction" 21 "RepairAuction$Parser" ∈ zTB := zq 168 (by decide +kernel) rfl
theorem zq_169 : Cond.instantiable "RepairAuction$Parser" 8 ∈ zTB := zq 169 (by decide +kernel) rfl
theorem zq_170 : Cond.methodLink "RepairAuction" 23 ⟨"RepairAuction$Parser", "<init>", "(LRepairAuction$Bytes;)V"⟩ ∈ zTB := zq 170 (by decide +kernel) rfl
theorem zq_171 : Cond.instanceMethod ⟨"RepairAuction$Parser", "<init>", "(LRepairAuction$Bytes;)V"⟩ ∈ zTB := zq 171 (by decide +kernel) rfl
theorem zq_172 : Cond.code ⟨"RepairAuction$Parser", "<init>", "(LRepairAuction$Bytes;)V"⟩ prog_7_method_1_code 2 none ∈ zTB := zq 172 (by decide +kernel) rfl
theorem zs_X9_23 : zSi RX9 23 yX5_init cX5_init 2 1 := ⟨Or.inl zq_170, zq_171, zq_118, zq_172, by decide +kernel, by decide +kernel, rfl⟩
theorem zq_282 : Cond.classLink "RepairAuction" 30 "RepairAuction$Ring" ∈ zTB := zq 282 (by decide +kernel) rfl
theorem zq_283 : Cond.methodLinkNest "RepairAuction" 32 ⟨"RepairAuction$Ring", "<init>", "()V"⟩ "RepairAuction" ∈ zNl := zqn 283 (by decide +kernel) rfl
theorem zs_X9_32 : zSi RX9 32 yX6_init cX6_init 1 0 := ⟨Or.inr ⟨"RepairAuction", zq_283⟩, zq_177, zq_119, zq_178, by decide +kernel, by decide +kernel, rfl⟩
theorem zq_284 : Cond.classLink "RepairAuction" 37 "RepairAuction$Auction" ∈ zTB := zq 284 (by decide +kernel) rfl
theorem zq_286 : Cond.methodLinkNest "RepairAuction" 39 ⟨"RepairAuction$Auction", "<init>", "()V"⟩ "RepairAuction" ∈ zNl := zqn 286 (by decide +kernel) rfl
theorem zs_X9_39 : zSi RX9 39 yX0_init cX0_init 1 0 := ⟨Or.inr ⟨"RepairAuction", zq_286⟩, zq_287, zq_121, zq_288, by decide +kernel, by decide +kernel, rfl⟩
theorem zq_329 : Cond.classLink "RepairAuction" 44 "RepairAuction$Forecast" ∈ zTB := zq 329 (by decide +kernel) rfl
theorem zq_330 : Cond.instantiable "RepairAuction$Forecast" 4 ∈ zTB := zq 330 (by decide +kernel) rfl
theorem zq_331 : Cond.methodLinkNest "RepairAuction" 46 ⟨"RepairAuction$Forecast", "<init>", "()V"⟩ "RepairAuction" ∈ zNl := zqn 331 (by decide +kernel) rfl
theorem zq_332 : Cond.instanceMethod ⟨"RepairAuction$Forecast", "<init>", "()V"⟩ ∈ zTB := zq 332 (by decide +kernel) rfl
theorem zq_333 : Cond.code ⟨"RepairAuction$Forecast", "<init>", "()V"⟩ prog_4_method_1_code 1 none ∈ zTB := zq 333 (by decide +kernel) rfl
theorem zs_X9_46 : zSi RX9 46 yX2_init cX2_init 1 0 := ⟨Or.inr ⟨"RepairAuction", zq_331⟩, zq_332, zq_123, zq_333, by decide +kernel, by decide +kernel, rfl⟩
theorem zq_355 : Cond.classLink "RepairAuction" 51 "RepairAuction$Undo" ∈ zTB := zq 355 (by decide +kernel) rfl
theorem zq_356 : Cond.instantiable "RepairAuction$Undo" 3 ∈ zTB := zq 356 (by decide +kernel) rfl
theorem zq_357 : Cond.methodLink "RepairAuction" 53 ⟨"RepairAuction$Undo", "<init>", "()V"⟩ ∈ zTB := zq 357 (by decide +kernel) rfl
theorem zq_358 : Cond.instanceMethod ⟨"RepairAuction$Undo", "<init>", "()V"⟩ ∈ zTB := zq 358 (by decide +kernel) rfl
theorem zq_359 : Cond.code ⟨"RepairAuction$Undo", "<init>", "()V"⟩ prog_10_method_1_code 2 none ∈ zTB := zq 359 (by decide +kernel) rfl
theorem zs_X9_53 : zSi RX9 53 yX8_init cX8_init 2 0 := ⟨Or.inl zq_357, zq_358, zq_124, zq_359, by decide +kernel, by decide +kernel, rfl⟩
set_option maxRecDepth 100000 in
set_option maxHeartbeats 8000000 in
theorem nX9_init {h0 : Nat} {Q : zw → Prop} (h : ∀ a1 a2 a3 a4 a5 a6 a7 a8 a9 a10 a11 a12 a13 a14 a15 a16 a17 a18 a19 a20 a21 a22 a23 a24 a25 a26 a27 a28 a29 a30 a31 a32 a33 a34 a35 a36 a37 a38 a39 a40 a41 a42 a43 a44 a45 a46 a47 a48 a49 a50 a51 a52 a53 a54 a55 a56 a57 a58 a59 a60 a61 a62 a63 a64 a65 a66 a67 a68 a69 a70 a71 a72 a73 a74 a75 a76 a77 a78 a79 a80 a81 a82 a83 a84 a85 a86 a87 a88 a89 a90 a91 a92 a93 a94 a95 a96 a97 a98 a99 a100 a101 a102 a103 a104 a105 a106 a107 a108 a109 a110 a111 a112 a113 a114 a115 a116 a117, Q (fun cy => (h0, .inr (8, [.ref a1, .ref a3, .ref a5, .ref a15, .ref a24, .ref a29, .ref a44])) :: ([(a1, .inr (1, [.ref a2, .int 0])), (a2, .inl (cy 1, 1400, .inl (fun _ => 0)))] ++ [(a3, .inr (1, [.ref a4, .int 0])), (a4, .inl (cy 1, 200, .inl (fun _ => 0)))] ++ ((a5, .inr (4, [.ref a1, .ref a6, .int 0, .int 0, .int 0, .int 0, .int 0, .int 0])) :: (wRing a6 a7 a8 a9 a10 a11 a12 a13 a14 cy)) ++ (wRing a15 a16 a17 a18 a19 a20 a21 a22 a23 cy) ++ (wAuc a24 a25 a26 a27 a28 cy) ++ ((a29, .inr (2, [.ref a30, .ref a39, .int 0, .long 0])) :: ((wRing a30 a31 a32 a33 a34 a35 a36 a37 a38 cy) ++ (wAuc a39 a40 a41 a42 a43 cy))) ++ ([(a44, .inr (7, [.ref a45, .int 0, .int 0])), (a45, .inl (cy 4, 8, .inr (.inr (.inr (.inr (va_up (va_up (va_up (va_up (va_up (va_up (va_up (va_up (fun _ => none) 0 (some a46)) 1 (some a55)) 2 (some a64)) 3 (some a73)) 4 (some a82)) 5 (some a91)) 6 (some a100)) 7 (some a109)))))))] ++ ((wRing a46 a47 a48 a49 a50 a51 a52 a53 a54 cy) ++ (wRing a55 a56 a57 a58 a59 a60 a61 a62 a63 cy) ++ (wRing a64 a65 a66 a67 a68 a69 a70 a71 a72 cy) ++ (wRing a73 a74 a75 a76 a77 a78 a79 a80 a81 cy) ++ (wRing a82 a83 a84 a85 a86 a87 a88 a89 a90 cy) ++ (wRing a91 a92 a93 a94 a95 a96 a97 a98 a99 cy) ++ (wRing a100 a101 a102 a103 a104 a105 a106 a107 a108 cy) ++ (wRing a109 a110 a111 a112 a113 a114 a115 a116 a117 cy)))))) : zN yX9_init cX9_init 1 { frames := 4, cells := 117, slots := 8305, locals := 120 } Q 117 8305 0 (zEnt 1 [.ref h0]) [] (fun _ => [(h0, .inr (8, fsX9))]) := by
  refine zn_aload_n (n := 1) (i := 0) rfl dX9_init_0 rfl ?_
  refine zn_objInit (n := 4) rfl dX9_init_1 zio_X9 zio_1 zio_2 ⟨Nat.le_of_ble_eq_true rfl, Nat.le_of_ble_eq_true rfl⟩ (Nat.le_of_ble_eq_true rfl) ?_
  refine zn_aload_n (n := 5) (i := 0) rfl dX9_init_4 rfl ?_
  refine zn_new (ci := 1) (a' := 116) (b' := 8303) (n := 8) rfl dX9_init_5 zuw_X1 tyX1_ok zq_149 zq_150 zq_116 rfl fsX1_ok (by omega) (by omega) (fun a1 => ?_)
  refine zn_dup (n := 9) rfl dX9_init_8 ?_
  refine zn_sipush (v := nI 1400) (n := 12) rfl dX9_init_9 (by decide) ?_
  refine zn_call (vs := [.int (nI 1400)]) (a' := 115) (b' := 6903) (n := 15) rfl dX9_init_12 zs_X9_11 ⟨Nat.le_of_ble_eq_true rfl, Nat.le_of_ble_eq_true rfl⟩ (Nat.le_of_ble_eq_true rfl) (by show 1 + 115 ≤ 116; omega) (by show 1400 + 6903 ≤ 8303; omega) (Nat.le_of_ble_eq_true rfl) (fun _ => rfl) (nX1_init (k := 1400) (by decide) (fun a2 => ?_))
  refine zn_putF (q0 := 0) (j := 0) (n := 18) rfl dX9_init_15 zuw_X9 tyX9_ok nmX9 (fun _ => rfl) rfl (by decide) zq_375 rfl rfl rfl (tyX9_ok 0 (by decide)) rfl rfl (Nat.le_of_ble_eq_true rfl) (fun _ => rfl) ?_
  refine zn_aload_n (n := 19) (i := 0) rfl dX9_init_18 rfl ?_
  refine zn_new (ci := 1) (a' := 114) (b' := 6901) (n := 22) rfl dX9_init_19 zuw_X1 tyX1_ok zq_149 zq_150 zq_116 rfl fsX1_ok (by omega) (by omega) (fun a3 => ?_)
  refine zn_dup (n := 23) rfl dX9_init_22 ?_
  refine zn_sipush (v := nI 200) (n := 26) rfl dX9_init_23 (by decide) ?_
  refine zn_call (vs := [.int (nI 200)]) (a' := 113) (b' := 6701) (n := 29) rfl dX9_init_26 zs_X9_11 ⟨Nat.le_of_ble_eq_true rfl, Nat.le_of_ble_eq_true rfl⟩ (Nat.le_of_ble_eq_true rfl) (by show 1 + 113 ≤ 114; omega) (by show 200 + 6701 ≤ 6901; omega) (Nat.le_of_ble_eq_true rfl) (fun _ => rfl) (nX1_init (k := 200) (by decide) (fun a4 => ?_))
  refine zn_putF (q0 := 0) (j := 1) (n := 32) rfl dX9_init_29 zuw_X9 tyX9_ok nmX9 (fun _ => rfl) rfl (by decide) zq_376 rfl rfl rfl (tyX9_ok 1 (by decide)) rfl rfl (Nat.le_of_ble_eq_true rfl) (fun _ => rfl) ?_
  refine zn_aload_n (n := 33) (i := 0) rfl dX9_init_32 rfl ?_
  refine zn_new (ci := 4) (a' := 112) (b' := 6693) (n := 36) rfl dX9_init_33 zuw_X5 tyX5_ok zq_168 zq_169 zq_118 rfl fsX5_ok (by omega) (by omega) (fun a5 => ?_)
  refine zn_dup (n := 37) rfl dX9_init_36 ?_
  refine zn_aload_n (n := 38) (i := 0) rfl dX9_init_37 rfl ?_
  refine zn_get (q0 := 0) (j := 0) (n := 41) rfl dX9_init_38 zuw_X9 (fun _ => rfl) rfl (by decide) zq_375 rfl rfl ?_
  refine zn_call (vs := [.ref a1]) (a' := 103) (b' := 6097) (n := 44) rfl dX9_init_41 zs_X9_23 ⟨Nat.le_of_ble_eq_true rfl, Nat.le_of_ble_eq_true rfl⟩ (Nat.le_of_ble_eq_true rfl) (by show 9 + 103 ≤ 112; omega) (by show 596 + 6097 ≤ 6693; omega) (Nat.le_of_ble_eq_true rfl) (fun _ => rfl) (nX5_init (fun a6 a7 a8 a9 a10 a11 a12 a13 a14 => ?_))
  refine zn_putF (q0 := 0) (j := 2) (n := 47) rfl dX9_init_44 zuw_X9 tyX9_ok nmX9 (fun _ => rfl) rfl (by decide) zq_377 rfl rfl rfl (tyX9_ok 2 (by decide)) rfl rfl (Nat.le_of_ble_eq_true rfl) (fun _ => rfl) ?_
  refine zn_aload_n (n := 48) (i := 0) rfl dX9_init_47 rfl ?_
  refine zn_new (ci := 5) (a' := 102) (b' := 6087) (n := 51) rfl dX9_init_48 zuw_X6 tyX6_ok zq_282 zq_175 zq_119 rfl fsX6_ok (by omega) (by omega) (fun a15 => ?_)
  refine zn_dup (n := 52) rfl dX9_init_51 ?_
  refine zn_call (vs := []) (a' := 94) (b' := 5501) (n := 55) rfl dX9_init_52 zs_X9_32 ⟨Nat.le_of_ble_eq_true rfl, Nat.le_of_ble_eq_true rfl⟩ (Nat.le_of_ble_eq_true rfl) (by show 8 + 94 ≤ 102; omega) (by show 586 + 5501 ≤ 6087; omega) (Nat.le_of_ble_eq_true rfl) (fun _ => rfl) (nX6_init (fun a16 a17 a18 a19 a20 a21 a22 a23 => ?_))
  refine zn_putF (q0 := 0) (j := 3) (n := 58) rfl dX9_init_55 zuw_X9 tyX9_ok nmX9 (fun _ => rfl) rfl (by decide) zq_378 rfl rfl rfl (tyX9_ok 3 (by decide)) rfl rfl (Nat.le_of_ble_eq_true rfl) (fun _ => rfl) ?_
  refine zn_aload_n (n := 59) (i := 0) rfl dX9_init_58 rfl ?_
  refine zn_new (ci := 0) (a' := 93) (b' := 5495) (n := 62) rfl dX9_init_59 zuw_X0 tyX0_ok zq_284 zq_285 zq_121 rfl fsX0_ok (by omega) (by omega) (fun a24 => ?_)
  refine zn_dup (n := 63) rfl dX9_init_62 ?_
  refine zn_call (vs := []) (a' := 89) (b' := 5440) (n := 66) rfl dX9_init_63 zs_X9_39 ⟨Nat.le_of_ble_eq_true rfl, Nat.le_of_ble_eq_true rfl⟩ (Nat.le_of_ble_eq_true rfl) (by show 4 + 89 ≤ 93; omega) (by show 55 + 5440 ≤ 5495; omega) (Nat.le_of_ble_eq_true rfl) (fun _ => rfl) (nX0_init (fun a25 a26 a27 a28 => ?_))
  refine zn_putF (q0 := 0) (j := 4) (n := 69) rfl dX9_init_66 zuw_X9 tyX9_ok nmX9 (fun _ => rfl) rfl (by decide) zq_379 rfl rfl rfl (tyX9_ok 4 (by decide)) rfl rfl (Nat.le_of_ble_eq_true rfl) (fun _ => rfl) ?_
  refine zn_aload_n (n := 70) (i := 0) rfl dX9_init_69 rfl ?_
  refine zn_new (ci := 2) (a' := 88) (b' := 5436) (n := 73) rfl dX9_init_70 zuw_X2 tyX2_ok zq_329 zq_330 zq_123 rfl fsX2_ok (by omega) (by omega) (fun a29 => ?_)
  refine zn_dup (n := 74) rfl dX9_init_73 ?_
  refine zn_call (vs := []) (a' := 74) (b' := 4779) (n := 77) rfl dX9_init_74 zs_X9_46 ⟨Nat.le_of_ble_eq_true rfl, Nat.le_of_ble_eq_true rfl⟩ (Nat.le_of_ble_eq_true rfl) (by show 14 + 74 ≤ 88; omega) (by show 657 + 4779 ≤ 5436; omega) (Nat.le_of_ble_eq_true rfl) (fun _ => rfl) (nX2_init (fun a30 a31 a32 a33 a34 a35 a36 a37 a38 a39 a40 a41 a42 a43 => ?_))
  refine zn_putF (q0 := 0) (j := 5) (n := 80) rfl dX9_init_77 zuw_X9 tyX9_ok nmX9 (fun _ => rfl) rfl (by decide) zq_380 rfl rfl rfl (tyX9_ok 5 (by decide)) rfl rfl (Nat.le_of_ble_eq_true rfl) (fun _ => rfl) ?_
  refine zn_aload_n (n := 81) (i := 0) rfl dX9_init_80 rfl ?_
  refine zn_new (ci := 7) (a' := 73) (b' := 4776) (n := 84) rfl dX9_init_81 zuw_X8 tyX8_ok zq_355 zq_356 zq_124 rfl fsX8_ok (by omega) (by omega) (fun a44 => ?_)
  refine zn_dup (n := 85) rfl dX9_init_84 ?_
  refine zn_call (vs := []) (a' := 0) (b' := 0) (n := 88) rfl dX9_init_85 zs_X9_53 ⟨Nat.le_of_ble_eq_true rfl, Nat.le_of_ble_eq_true rfl⟩ (Nat.le_of_ble_eq_true rfl) (by show 73 + 0 ≤ 73; omega) (by show 4776 + 0 ≤ 4776; omega) (Nat.le_of_ble_eq_true rfl) (fun _ => rfl) (nX8_init (fun a45 a46 a47 a48 a49 a50 a51 a52 a53 a54 a55 a56 a57 a58 a59 a60 a61 a62 a63 a64 a65 a66 a67 a68 a69 a70 a71 a72 a73 a74 a75 a76 a77 a78 a79 a80 a81 a82 a83 a84 a85 a86 a87 a88 a89 a90 a91 a92 a93 a94 a95 a96 a97 a98 a99 a100 a101 a102 a103 a104 a105 a106 a107 a108 a109 a110 a111 a112 a113 a114 a115 a116 a117 => ?_))
  refine zn_putF (q0 := 0) (j := 6) (n := 91) rfl dX9_init_88 zuw_X9 tyX9_ok nmX9 (fun _ => rfl) rfl (by decide) zq_381 rfl rfl rfl (tyX9_ok 6 (by decide)) rfl rfl (Nat.le_of_ble_eq_true rfl) (fun _ => rfl) ?_
  exact zn_return dX9_init_91 (h a1 a2 a3 a4 a5 a6 a7 a8 a9 a10 a11 a12 a13 a14 a15 a16 a17 a18 a19 a20 a21 a22 a23 a24 a25 a26 a27 a28 a29 a30 a31 a32 a33 a34 a35 a36 a37 a38 a39 a40 a41 a42 a43 a44 a45 a46 a47 a48 a49 a50 a51 a52 a53 a54 a55 a56 a57 a58 a59 a60 a61 a62 a63 a64 a65 a66 a67 a68 a69 a70 a71 a72 a73 a74 a75 a76 a77 a78 a79 a80 a81 a82 a83 a84 a85 a86 a87 a88 a89 a90 a91 a92 a93 a94 a95 a96 a97 a98 a99 a100 a101 a102 a103 a104 a105 a106 a107 a108 a109 a110 a111 a112 a113 a114 a115 a116 a117)
