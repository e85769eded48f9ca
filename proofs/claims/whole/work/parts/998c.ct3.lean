/-! CONSTRUCTORS: the model -/
set_option maxRecDepth 100000 in
set_option maxHeartbeats 8000000 in
theorem nX10_init {h0 : Nat} {Q : zw → Prop} (h : ∀ a1 a2 a3 a4 a5 a6 a7 a8 a9 a10 a11 a12, Q (fun cy => [(h0, .inr (9, [.int 0, .ref a1, .ref a2, .ref a1, .int 0, .ref a3, .ref a4, .ref a5, .ref a6, .ref a7, .ref a8, .int 0, .int 0, .int 0, .long 0, .int 0, .ref a9, .int 0, .int 0, .int 0, .int 0, .int 0, .int 0, .int 0, .int (-1), .ref a10, .ref a11, .int 0, .ref a12, .int 0])), (a1, .inl (cy 0, 698, .inl (upd (fun _ => 0) (nI 0).toNatClampNeg (nI 1)))), (a2, .inl (cy 0, 698, .inl (fun _ => 0))), (a3, .inl (cy 2, 11, .inr (.inl (fun _ => 0)))), (a4, .inl (cy 0, 10, .inl (fun _ => 0))), (a5, .inl (cy 0, 10, .inl (fun _ => 0))), (a6, .inl (cy 0, 10, .inl (fun _ => 0))), (a7, .inl (cy 0, 10, .inl (fun _ => 0))), (a8, .inl (cy 0, 10, .inl (fun _ => 0))), (a9, .inl (cy 1, 1400, .inl (fun _ => 0))), (a10, .inl (cy 0, 698, .inl (fun _ => 0))), (a11, .inl (cy 0, 5584, .inl (fun _ => 0))), (a12, .inl (cy 1, 300, .inl (fun _ => 0)))])) : zN yX10_init cX10_init 1 { frames := 1, cells := 12, slots := 9439, locals := 20 } Q 12 9439 0 (zEnt 1 [.ref h0]) [] (fun _ => [(h0, .inr (9, fsX10))]) := by
  refine zn_aload_n (n := 1) (i := 0) rfl dX10_init_0 rfl ?_
  refine zn_objInit (n := 4) rfl dX10_init_1 zio_X10 zio_1 zio_2 ⟨Nat.le_of_ble_eq_true rfl, Nat.le_of_ble_eq_true rfl⟩ (Nat.le_of_ble_eq_true rfl) ?_
  refine zn_aload_n (n := 5) (i := 0) rfl dX10_init_4 rfl ?_
  refine zn_sipush (v := nI 698) (n := 8) rfl dX10_init_5 (by decide) ?_
  refine zn_newa (t9 := 0) (ty := .int) (a0 := (698, .inl (fun _ => 0))) (N' := 698) (a' := 11) (b' := 8741) (n := 10) rfl dX10_init_8 zka_int rfl (fun _ => rfl) (fun _ _ h => h) (fun _ => rfl) (by decide) (by decide) (by decide) (by omega) (by omega) (fun a1 => ?_)
  refine zn_putF (q0 := 0) (j := 1) (n := 13) rfl dX10_init_10 zuw_X10 tyX10_ok nmX10 (fun _ => rfl) rfl (by decide) zq_1465 rfl rfl rfl (tyX10_ok 1 (by decide)) rfl rfl (Nat.le_of_ble_eq_true rfl) (fun _ => rfl) ?_
  refine zn_aload_n (n := 14) (i := 0) rfl dX10_init_13 rfl ?_
  refine zn_sipush (v := nI 698) (n := 17) rfl dX10_init_14 (by decide) ?_
  refine zn_newa (t9 := 0) (ty := .int) (a0 := (698, .inl (fun _ => 0))) (N' := 698) (a' := 10) (b' := 8043) (n := 19) rfl dX10_init_17 zka_int rfl (fun _ => rfl) (fun _ _ h => h) (fun _ => rfl) (by decide) (by decide) (by decide) (by omega) (by omega) (fun a2 => ?_)
  refine zn_putF (q0 := 0) (j := 2) (n := 22) rfl dX10_init_19 zuw_X10 tyX10_ok nmX10 (fun _ => rfl) rfl (by decide) zq_1466 rfl rfl rfl (tyX10_ok 2 (by decide)) rfl rfl (Nat.le_of_ble_eq_true rfl) (fun _ => rfl) ?_
  refine zn_aload_n (n := 23) (i := 0) rfl dX10_init_22 rfl ?_
  refine zn_aload_n (n := 24) (i := 0) rfl dX10_init_23 rfl ?_
  refine zn_get (q0 := 0) (j := 1) (n := 27) rfl dX10_init_24 zuw_X10 (fun _ => rfl) rfl (by decide) zq_1465 rfl rfl ?_
  refine zn_put (q0 := 0) (j := 3) (n := 30) rfl dX10_init_27 zuw_X10 tyX10_ok nmX10 (fun _ => rfl) rfl (by decide) zq_1467 rfl rfl (tyX10_ok 3 (by decide)) rfl rfl (Nat.le_of_ble_eq_true rfl) (fun _ => rfl) ?_
  refine zn_aload_n (n := 31) (i := 0) rfl dX10_init_30 rfl ?_
  refine zn_bipush (v := nI 11) (n := 33) rfl dX10_init_31 (by decide) ?_
  refine zn_newa (t9 := 2) (ty := .long) (a0 := (11, .inr (.inl (fun _ => 0)))) (N' := 11) (a' := 9) (b' := 8032) (n := 35) rfl dX10_init_33 zka_long rfl (fun _ => rfl) (fun _ _ h => h) (fun _ => rfl) (by decide) (by decide) (by decide) (by omega) (by omega) (fun a3 => ?_)
  refine zn_putF (q0 := 0) (j := 5) (n := 38) rfl dX10_init_35 zuw_X10 tyX10_ok nmX10 (fun _ => rfl) rfl (by decide) zq_1469 rfl rfl rfl (tyX10_ok 5 (by decide)) rfl rfl (Nat.le_of_ble_eq_true rfl) (fun _ => rfl) ?_
  refine zn_aload_n (n := 39) (i := 0) rfl dX10_init_38 rfl ?_
  refine zn_bipush (v := nI 10) (n := 41) rfl dX10_init_39 (by decide) ?_
  refine zn_newa (t9 := 0) (ty := .int) (a0 := (10, .inl (fun _ => 0))) (N' := 10) (a' := 8) (b' := 8022) (n := 43) rfl dX10_init_41 zka_int rfl (fun _ => rfl) (fun _ _ h => h) (fun _ => rfl) (by decide) (by decide) (by decide) (by omega) (by omega) (fun a4 => ?_)
  refine zn_putF (q0 := 0) (j := 6) (n := 46) rfl dX10_init_43 zuw_X10 tyX10_ok nmX10 (fun _ => rfl) rfl (by decide) zq_1470 rfl rfl rfl (tyX10_ok 6 (by decide)) rfl rfl (Nat.le_of_ble_eq_true rfl) (fun _ => rfl) ?_
  refine zn_aload_n (n := 47) (i := 0) rfl dX10_init_46 rfl ?_
  refine zn_bipush (v := nI 10) (n := 49) rfl dX10_init_47 (by decide) ?_
  refine zn_newa (t9 := 0) (ty := .int) (a0 := (10, .inl (fun _ => 0))) (N' := 10) (a' := 7) (b' := 8012) (n := 51) rfl dX10_init_49 zka_int rfl (fun _ => rfl) (fun _ _ h => h) (fun _ => rfl) (by decide) (by decide) (by decide) (by omega) (by omega) (fun a5 => ?_)
  refine zn_putF (q0 := 0) (j := 7) (n := 54) rfl dX10_init_51 zuw_X10 tyX10_ok nmX10 (fun _ => rfl) rfl (by decide) zq_1471 rfl rfl rfl (tyX10_ok 7 (by decide)) rfl rfl (Nat.le_of_ble_eq_true rfl) (fun _ => rfl) ?_
  refine zn_aload_n (n := 55) (i := 0) rfl dX10_init_54 rfl ?_
  refine zn_bipush (v := nI 10) (n := 57) rfl dX10_init_55 (by decide) ?_
  refine zn_newa (t9 := 0) (ty := .int) (a0 := (10, .inl (fun _ => 0))) (N' := 10) (a' := 6) (b' := 8002) (n := 59) rfl dX10_init_57 zka_int rfl (fun _ => rfl) (fun _ _ h => h) (fun _ => rfl) (by decide) (by decide) (by decide) (by omega) (by omega) (fun a6 => ?_)
  refine zn_putF (q0 := 0) (j := 8) (n := 62) rfl dX10_init_59 zuw_X10 tyX10_ok nmX10 (fun _ => rfl) rfl (by decide) zq_1472 rfl rfl rfl (tyX10_ok 8 (by decide)) rfl rfl (Nat.le_of_ble_eq_true rfl) (fun _ => rfl) ?_
  refine zn_aload_n (n := 63) (i := 0) rfl dX10_init_62 rfl ?_
  refine zn_bipush (v := nI 10) (n := 65) rfl dX10_init_63 (by decide) ?_
  refine zn_newa (t9 := 0) (ty := .int) (a0 := (10, .inl (fun _ => 0))) (N' := 10) (a' := 5) (b' := 7992) (n := 67) rfl dX10_init_65 zka_int rfl (fun _ => rfl) (fun _ _ h => h) (fun _ => rfl) (by decide) (by decide) (by decide) (by omega) (by omega) (fun a7 => ?_)
  refine zn_putF (q0 := 0) (j := 9) (n := 70) rfl dX10_init_67 zuw_X10 tyX10_ok nmX10 (fun _ => rfl) rfl (by decide) zq_1473 rfl rfl rfl (tyX10_ok 9 (by decide)) rfl rfl (Nat.le_of_ble_eq_true rfl) (fun _ => rfl) ?_
  refine zn_aload_n (n := 71) (i := 0) rfl dX10_init_70 rfl ?_
  refine zn_bipush (v := nI 10) (n := 73) rfl dX10_init_71 (by decide) ?_
  refine zn_newa (t9 := 0) (ty := .int) (a0 := (10, .inl (fun _ => 0))) (N' := 10) (a' := 4) (b' := 7982) (n := 75) rfl dX10_init_73 zka_int rfl (fun _ => rfl) (fun _ _ h => h) (fun _ => rfl) (by decide) (by decide) (by decide) (by omega) (by omega) (fun a8 => ?_)
  refine zn_putF (q0 := 0) (j := 10) (n := 78) rfl dX10_init_75 zuw_X10 tyX10_ok nmX10 (fun _ => rfl) rfl (by decide) zq_1474 rfl rfl rfl (tyX10_ok 10 (by decide)) rfl rfl (Nat.le_of_ble_eq_true rfl) (fun _ => rfl) ?_
  refine zn_aload_n (n := 79) (i := 0) rfl dX10_init_78 rfl ?_
  refine zn_sipush (v := nI 1400) (n := 82) rfl dX10_init_79 (by decide) ?_
  refine zn_newa (t9 := 1) (ty := .byte) (a0 := (1400, .inl (fun _ => 0))) (N' := 1400) (a' := 3) (b' := 6582) (n := 84) rfl dX10_init_82 zka_byte rfl (fun _ => rfl) (fun _ _ h => h) (fun _ => rfl) (by decide) (by decide) (by decide) (by omega) (by omega) (fun a9 => ?_)
  refine zn_putF (q0 := 0) (j := 16) (n := 87) rfl dX10_init_84 zuw_X10 tyX10_ok nmX10 (fun _ => rfl) rfl (by decide) zq_1480 rfl rfl rfl (tyX10_ok 16 (by decide)) rfl rfl (Nat.le_of_ble_eq_true rfl) (fun _ => rfl) ?_
  refine zn_aload_n (n := 88) (i := 0) rfl dX10_init_87 rfl ?_
  refine zn_iconst (v := (-1)) (n := 89) rfl dX10_init_88 (by decide) ?_
  refine zn_put (q0 := 0) (j := 24) (n := 92) rfl dX10_init_89 zuw_X10 tyX10_ok nmX10 (fun _ => rfl) rfl (by decide) zq_1488 rfl rfl (tyX10_ok 24 (by decide)) rfl rfl (Nat.le_of_ble_eq_true rfl) (fun _ => rfl) ?_
  refine zn_aload_n (n := 93) (i := 0) rfl dX10_init_92 rfl ?_
  refine zn_sipush (v := nI 698) (n := 96) rfl dX10_init_93 (by decide) ?_
  refine zn_newa (t9 := 0) (ty := .int) (a0 := (698, .inl (fun _ => 0))) (N' := 698) (a' := 2) (b' := 5884) (n := 98) rfl dX10_init_96 zka_int rfl (fun _ => rfl) (fun _ _ h => h) (fun _ => rfl) (by decide) (by decide) (by decide) (by omega) (by omega) (fun a10 => ?_)
  refine zn_putF (q0 := 0) (j := 25) (n := 101) rfl dX10_init_98 zuw_X10 tyX10_ok nmX10 (fun _ => rfl) rfl (by decide) zq_1489 rfl rfl rfl (tyX10_ok 25 (by decide)) rfl rfl (Nat.le_of_ble_eq_true rfl) (fun _ => rfl) ?_
  refine zn_aload_n (n := 102) (i := 0) rfl dX10_init_101 rfl ?_
  refine zn_sipush (v := nI 5584) (n := 105) rfl dX10_init_102 (by decide) ?_
  refine zn_newa (t9 := 0) (ty := .int) (a0 := (5584, .inl (fun _ => 0))) (N' := 5584) (a' := 1) (b' := 300) (n := 107) rfl dX10_init_105 zka_int rfl (fun _ => rfl) (fun _ _ h => h) (fun _ => rfl) (by decide) (by decide) (by decide) (by omega) (by omega) (fun a11 => ?_)
  refine zn_putF (q0 := 0) (j := 26) (n := 110) rfl dX10_init_107 zuw_X10 tyX10_ok nmX10 (fun _ => rfl) rfl (by decide) zq_1490 rfl rfl rfl (tyX10_ok 26 (by decide)) rfl rfl (Nat.le_of_ble_eq_true rfl) (fun _ => rfl) ?_
  refine zn_aload_n (n := 111) (i := 0) rfl dX10_init_110 rfl ?_
  refine zn_sipush (v := nI 300) (n := 114) rfl dX10_init_111 (by decide) ?_
  refine zn_newa (t9 := 1) (ty := .byte) (a0 := (300, .inl (fun _ => 0))) (N' := 300) (a' := 0) (b' := 0) (n := 116) rfl dX10_init_114 zka_byte rfl (fun _ => rfl) (fun _ _ h => h) (fun _ => rfl) (by decide) (by decide) (by decide) (by omega) (by omega) (fun a12 => ?_)
  refine zn_putF (q0 := 0) (j := 28) (n := 119) rfl dX10_init_116 zuw_X10 tyX10_ok nmX10 (fun _ => rfl) rfl (by decide) zq_1492 rfl rfl rfl (tyX10_ok 28 (by decide)) rfl rfl (Nat.le_of_ble_eq_true rfl) (fun _ => rfl) ?_
  refine zn_aload_n (n := 120) (i := 0) rfl dX10_init_119 rfl ?_
  refine zn_get (q0 := 0) (j := 1) (n := 123) rfl dX10_init_120 zuw_X10 (fun _ => rfl) rfl (by decide) zq_1465 rfl rfl ?_
  refine zn_iconst (v := nI 0) (n := 124) rfl dX10_init_123 (by decide) ?_
  refine zn_iconst (v := nI 1) (n := 125) rfl dX10_init_124 (by decide) ?_
  refine zn_iastore (q0 := 1) (n := 126) rfl dX10_init_125 (fun _ => rfl) (vp_in_nI (by decide) (by decide)) (fun _ => rfl) ?_
  exact zn_return dX10_init_126 (h a1 a2 a3 a4 a5 a6 a7 a8 a9 a10 a11 a12)
