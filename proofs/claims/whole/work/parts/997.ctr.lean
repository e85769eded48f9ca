/-! CONSTRUCTORS: their contracts -/
theorem zio_1 : Cond.instanceMethod Lib.objectInit ∈ zTB := zq 147 (by decide +kernel) rfl
theorem zio_2 : Cond.code Lib.objectInit ⟨#[0xb1]⟩ 1 none ∈ zTB := zq 148 (by decide +kernel) rfl
def fsX0 : List Value := [.null, .null, .int 0, .int 0, .int 0, .int 0]
theorem fsX0_ok : ∀ j, j < 6 → defaultValue (tyX0 j) = vp_V fsX0 j := fun j hj => by
  rcases (show j = 0 ∨ j = 1 ∨ j = 2 ∨ j = 3 ∨ j = 4 ∨ j = 5 by omega) with rfl | rfl | rfl | rfl | rfl | rfl <;> rfl
theorem zio_X0 : Cond.methodLink RX0 3 Lib.objectInit ∈ zTB := zq 289 (by decide +kernel) rfl
def fsX1 : List Value := [.null, .int 0]
theorem fsX1_ok : ∀ j, j < 2 → defaultValue (tyX1 j) = vp_V fsX1 j := fun j hj => by
  rcases (show j = 0 ∨ j = 1 by omega) with rfl | rfl <;> rfl
theorem zio_X1 : Cond.methodLink RX1 3 Lib.objectInit ∈ zTB := zq 154 (by decide +kernel) rfl
def fsX2 : List Value := [.null, .null, .int 0, .long 0]
theorem fsX2_ok : ∀ j, j < 4 → defaultValue (tyX2 j) = vp_V fsX2 j := fun j hj => by
  rcases (show j = 0 ∨ j = 1 ∨ j = 2 ∨ j = 3 by omega) with rfl | rfl | rfl | rfl <;> rfl
theorem zio_X2 : Cond.methodLink RX2 3 Lib.objectInit ∈ zTB := zq 334 (by decide +kernel) rfl
def fsX4 : List Value := [.null]
theorem fsX4_ok : ∀ j, j < 1 → defaultValue (tyX4 j) = vp_V fsX4 j := fun j hj => by
  rcases (show j = 0 by omega) with rfl <;> rfl
theorem zio_X4 : Cond.methodLink RX4 3 Lib.objectInit ∈ zTB := zq 295 (by decide +kernel) rfl
def fsX5 : List Value := [.null, .null, .int 0, .int 0, .int 0, .int 0, .int 0, .int 0]
theorem fsX5_ok : ∀ j, j < 8 → defaultValue (tyX5 j) = vp_V fsX5 j := fun j hj => by
  rcases (show j = 0 ∨ j = 1 ∨ j = 2 ∨ j = 3 ∨ j = 4 ∨ j = 5 ∨ j = 6 ∨ j = 7 by omega) with rfl | rfl | rfl | rfl | rfl | rfl | rfl | rfl <;> rfl
theorem zio_X5 : Cond.methodLink RX5 3 Lib.objectInit ∈ zTB := zq 173 (by decide +kernel) rfl
def fsX6 : List Value := [.null, .null, .null, .null, .int 0, .int 0, .int 0, .int 0, .int 0, .int 0]
theorem fsX6_ok : ∀ j, j < 10 → defaultValue (tyX6 j) = vp_V fsX6 j := fun j hj => by
  rcases (show j = 0 ∨ j = 1 ∨ j = 2 ∨ j = 3 ∨ j = 4 ∨ j = 5 ∨ j = 6 ∨ j = 7 ∨ j = 8 ∨ j = 9 by omega) with rfl | rfl | rfl | rfl | rfl | rfl | rfl | rfl | rfl | rfl <;> rfl
theorem zio_X6 : Cond.methodLink RX6 3 Lib.objectInit ∈ zTB := zq 179 (by decide +kernel) rfl
def fsX7 : List Value := [.int 0, .null, .int 0]
theorem fsX7_ok : ∀ j, j < 3 → defaultValue (tyX7 j) = vp_V fsX7 j := fun j hj => by
  rcases (show j = 0 ∨ j = 1 ∨ j = 2 by omega) with rfl | rfl | rfl <;> rfl
theorem zio_X7 : Cond.methodLink RX7 3 Lib.objectInit ∈ zTB := zq 185 (by decide +kernel) rfl
def fsX8 : List Value := [.null, .int 0, .int 0]
theorem fsX8_ok : ∀ j, j < 3 → defaultValue (tyX8 j) = vp_V fsX8 j := fun j hj => by
  rcases (show j = 0 ∨ j = 1 ∨ j = 2 by omega) with rfl | rfl | rfl <;> rfl
theorem zio_X8 : Cond.methodLink RX8 3 Lib.objectInit ∈ zTB := zq 360 (by decide +kernel) rfl
def fsX9 : List Value := [.null, .null, .null, .null, .null, .null, .null]
theorem fsX9_ok : ∀ j, j < 7 → defaultValue (tyX9 j) = vp_V fsX9 j := fun j hj => by
  rcases (show j = 0 ∨ j = 1 ∨ j = 2 ∨ j = 3 ∨ j = 4 ∨ j = 5 ∨ j = 6 by omega) with rfl | rfl | rfl | rfl | rfl | rfl | rfl <;> rfl
theorem zio_X9 : Cond.methodLink RX9 3 Lib.objectInit ∈ zTB := zq 146 (by decide +kernel) rfl
def fsX10 : List Value := [.int 0, .null, .null, .null, .int 0, .null, .null, .null, .null, .null, .null, .int 0, .int 0, .int 0, .long 0, .int 0, .null, .int 0, .int 0, .int 0, .int 0, .int 0, .int 0, .int 0, .int 0, .null, .null, .int 0, .null, .int 0]
theorem fsX10_ok : ∀ j, j < 30 → defaultValue (tyX10 j) = vp_V fsX10 j := fun j hj => by
  rcases (show j = 0 ∨ j = 1 ∨ j = 2 ∨ j = 3 ∨ j = 4 ∨ j = 5 ∨ j = 6 ∨ j = 7 ∨ j = 8 ∨ j = 9 ∨ j = 10 ∨ j = 11 ∨ j = 12 ∨ j = 13 ∨ j = 14 ∨ j = 15 ∨ j = 16 ∨ j = 17 ∨ j = 18 ∨ j = 19 ∨ j = 20 ∨ j = 21 ∨ j = 22 ∨ j = 23 ∨ j = 24 ∨ j = 25 ∨ j = 26 ∨ j = 27 ∨ j = 28 ∨ j = 29 by omega) with rfl | rfl | rfl | rfl | rfl | rfl | rfl | rfl | rfl | rfl | rfl | rfl | rfl | rfl | rfl | rfl | rfl | rfl | rfl | rfl | rfl | rfl | rfl | rfl | rfl | rfl | rfl | rfl | rfl | rfl <;> rfl
theorem zio_X10 : Cond.methodLink RX10 11 Lib.objectInit ∈ zTB := zq 1463 (by decide +kernel) rfl
theorem zka_int : Cond.arrayClass (newarray.typeOf .int) ∈ zTB := zq 200 (by decide +kernel) rfl
theorem zka_byte : Cond.arrayClass (newarray.typeOf .byte) ∈ zTB := zq 167 (by decide +kernel) rfl
theorem zka_long : Cond.arrayClass (newarray.typeOf .long) ∈ zTB := zq 300 (by decide +kernel) rfl
theorem zka_double : Cond.arrayClass (newarray.typeOf .double) ∈ zTB := zq 2170 (by decide +kernel) rfl
theorem nX4_init {h0 : Nat} {Q : zw → Prop} (h : ∀ q, Q (fun cy => [(h0, .inr (3, [.ref q])), (q, .inl (cy 2, 11, .inr (.inl (fun _ => 0))))])) : zN yX4_init cX4_init 1 { frames := 1, cells := 1, slots := 11, locals := 20 } Q 1 11 0 (zEnt 1 [.ref h0]) [] (fun _ => [(h0, .inr (3, fsX4))]) := by
  refine zn_aload_n (n := 1) (i := 0) rfl dX4_init_0 rfl ?_
  refine zn_objInit (n := 4) rfl dX4_init_1 zio_X4 zio_1 zio_2 ⟨Nat.le_of_ble_eq_true rfl, Nat.le_of_ble_eq_true rfl⟩ (Nat.le_of_ble_eq_true rfl) ?_
  refine zn_aload_n (n := 5) (i := 0) rfl dX4_init_4 rfl ?_
  refine zn_bipush (v := 11) (n := 7) rfl dX4_init_5 (by decide) ?_
  refine zn_newa (t9 := 2) (ty := .long) (a0 := (11, .inr (.inl (fun _ => 0)))) (N' := 11) (a' := 0) (b' := 0) (n := 9) rfl dX4_init_7 zka_long rfl (fun _ => rfl) (fun _ _ h => h) (fun _ => rfl) (by decide) (by decide) (by decide) (by omega) (by omega) (fun q => ?_)
  refine zn_putF (q0 := 0) (j := 0) (n := 12) rfl dX4_init_9 zuw_X4 tyX4_ok nmX4 (fun _ => rfl) rfl (by decide) zq_296 rfl rfl rfl (tyX4_ok 0 (by decide)) rfl rfl (Nat.le_of_ble_eq_true rfl) (fun _ => rfl) ?_
  exact zn_return dX4_init_12 (h q)
theorem zn_mx {k : Nat} (hk : k < 2 ^ 31) : (if (0 : Int32) < nI k then nI k else 0) = nI k := by
  by_cases q : k = 0
  · subst q; rfl
  · rw [if_pos (by rw [show (0 : Int32) = nI 0 from rfl]; exact nI_lt (by omega) hk)]
theorem nX1_init {h0 k : Nat} {Q : zw → Prop} (hk : k < 6000) (h : ∀ q, Q (fun cy => [(h0, .inr (1, [.ref q, .int 0])), (q, .inl (cy 1, k, .inl (fun _ => 0)))])) : zN yX1_init cX1_init 2 { frames := 1, cells := 1, slots := k, locals := 21 } Q 1 k 0 (zEnt 2 [.ref h0, .int (nI k)]) [] (fun _ => [(h0, .inr (1, fsX1))]) := by
  refine zn_aload_n (n := 1) (i := 0) rfl dX1_init_0 rfl ?_
  refine zn_objInit (n := 4) rfl dX1_init_1 zio_X1 zio_1 zio_2 ⟨Nat.le_of_ble_eq_true rfl, Nat.le_of_ble_eq_true rfl⟩ (Nat.le_of_ble_eq_true rfl) ?_
  refine zn_aload_n (n := 5) (i := 0) rfl dX1_init_4 rfl ?_
  refine zn_iconst (v := 0) (n := 6) rfl dX1_init_5 (by decide) ?_
  refine zn_iload_n (n := 7) (i := 1) rfl dX1_init_6 rfl ?_
  refine zn_imax (n := 10) rfl dX1_init_7 zm_X1_9 ⟨Nat.le_of_ble_eq_true rfl, Nat.le_of_ble_eq_true rfl⟩ (Nat.le_of_ble_eq_true rfl) (zn_mx (by omega)) ?_
  refine zn_newa (t9 := 1) (ty := .byte) (a0 := (k, .inl (fun _ => 0))) (N' := k) (a' := 0) (b' := 0) (n := 12) rfl dX1_init_10 zka_byte rfl (fun _ => rfl) (fun _ _ h => h) (fun _ => rfl) (nI_pos (by omega)) (nI_clamp (by omega)) (by show k * 1 ≤ 536870912; omega) (by omega) (by omega) (fun q => ?_)
  refine zn_putF (q0 := 0) (j := 0) (n := 15) rfl dX1_init_12 zuw_X1 tyX1_ok nmX1 (fun _ => rfl) rfl (by decide) zq_158 rfl rfl rfl (tyX1_ok 0 (by decide)) rfl rfl (Nat.le_of_ble_eq_true rfl) (fun _ => rfl) ?_
  exact zn_return dX1_init_15 (h q)
theorem nX7_init {h0 r k : Nat} {Q : zw → Prop} (hk : r * k < 6000) (h : ∀ q, Q (fun cy => [(h0, .inr (6, [.int (nI k), .ref q, .int 0])), (q, .inl (cy 0, r * k, .inl (fun _ => 0)))])) : zN yX7_init cX7_init 3 { frames := 1, cells := 1, slots := r * k, locals := 21 } Q 1 (r * k) 0 (zEnt 3 [.ref h0, .int (nI r), .int (nI k)]) [] (fun _ => [(h0, .inr (6, fsX7))]) := by
  refine zn_aload_n (n := 1) (i := 0) rfl dX7_init_0 rfl ?_
  refine zn_objInit (n := 4) rfl dX7_init_1 zio_X7 zio_1 zio_2 ⟨Nat.le_of_ble_eq_true rfl, Nat.le_of_ble_eq_true rfl⟩ (Nat.le_of_ble_eq_true rfl) ?_
  refine zn_aload_n (n := 5) (i := 0) rfl dX7_init_4 rfl ?_
  refine zn_iload_n (n := 6) (i := 2) rfl dX7_init_5 rfl ?_
  refine zn_putF (q0 := 0) (j := 0) (n := 9) rfl dX7_init_6 zuw_X7 tyX7_ok nmX7 (fun _ => rfl) rfl (by decide) zq_187 rfl rfl rfl (tyX7_ok 0 (by decide)) rfl rfl (Nat.le_of_ble_eq_true rfl) (fun _ => rfl) ?_
  refine zn_aload_n (n := 10) (i := 0) rfl dX7_init_9 rfl ?_
  refine zn_iconst (v := 0) (n := 11) rfl dX7_init_10 (by decide) ?_
  refine zn_iload_n (n := 12) (i := 1) rfl dX7_init_11 rfl ?_
  refine zn_iload_n (n := 13) (i := 2) rfl dX7_init_12 rfl ?_
  refine zn_imul (v := nI (r * k)) (n := 14) rfl dX7_init_13 (pk_mul r k) ?_
  refine zn_imax (n := 17) rfl dX7_init_14 zm_X7_15 ⟨Nat.le_of_ble_eq_true rfl, Nat.le_of_ble_eq_true rfl⟩ (Nat.le_of_ble_eq_true rfl) (zn_mx (by omega)) ?_
  refine zn_newa (t9 := 0) (ty := .int) (a0 := ((r * k), .inl (fun _ => 0))) (N' := (r * k)) (a' := 0) (b' := 0) (n := 19) rfl dX7_init_17 zka_int rfl (fun _ => rfl) (fun _ _ h => h) (fun _ => rfl) (nI_pos (by omega)) (nI_clamp (by omega)) (by show r * k * 4 ≤ 536870912; omega) (by omega) (by omega) (fun q => ?_)
  refine zn_putF (q0 := 0) (j := 1) (n := 22) rfl dX7_init_19 zuw_X7 tyX7_ok nmX7 (fun _ => rfl) rfl (by decide) zq_188 rfl rfl rfl (tyX7_ok 1 (by decide)) rfl rfl (Nat.le_of_ble_eq_true rfl) (fun _ => rfl) ?_
  exact zn_return dX7_init_22 (h q)
def wRing (h0 a1 a2 a3 a4 a5 a6 a7 a8 : Nat) : zw := fun cy => [(h0, .inr (5, [.ref a1, .ref a3, .ref a5, .ref a7, .int 1, .int 0, .int 0, .int 0, .int 0, .int 0])), (a1, .inr (6, [.int (nI 8), .ref a2, .int 0])), (a2, .inl (cy 0, 128, .inl (fun _ => 0))), (a3, .inr (6, [.int (nI 6), .ref a4, .int 0])), (a4, .inl (cy 0, 36, .inl (fun _ => 0))), (a5, .inr (6, [.int (nI 21), .ref a6, .int 0])), (a6, .inl (cy 0, 210, .inl (fun _ => 0))), (a7, .inr (6, [.int (nI 5), .ref a8, .int 0])), (a8, .inl (cy 0, 200, .inl (fun _ => 0)))]
theorem zq_180 : Cond.classLink "RepairAuction$Ring" 9 "RepairAuction$Table" ∈ zTB := zq 180 (by decide +kernel) rfl
theorem zq_181 : Cond.instantiable "RepairAuction$Table" 3 ∈ zTB := zq 181 (by decide +kernel) rfl
theorem zq_182 : Cond.methodLink "RepairAuction$Ring" 11 ⟨"RepairAuction$Table", "<init>", "(II)V"⟩ ∈ zTB := zq 182 (by decide +kernel) rfl
theorem zq_183 : Cond.instanceMethod ⟨"RepairAuction$Table", "<init>", "(II)V"⟩ ∈ zTB := zq 183 (by decide +kernel) rfl
theorem zq_184 : Cond.code ⟨"RepairAuction$Table", "<init>", "(II)V"⟩ prog_9_method_1_code 3 none ∈ zTB := zq 184 (by decide +kernel) rfl
theorem zs_X6_11 : zSi RX6 11 yX7_init cX7_init 3 2 := ⟨Or.inl zq_182, zq_183, zq_120, zq_184, by decide +kernel, by decide +kernel, rfl⟩
theorem nX6_init {h0 : Nat} {Q : zw → Prop} (h : ∀ a1 a2 a3 a4 a5 a6 a7 a8, Q (wRing h0 a1 a2 a3 a4 a5 a6 a7 a8)) : zN yX6_init cX6_init 1 { frames := 2, cells := 8, slots := 586, locals := 60 } Q 8 586 0 (zEnt 1 [.ref h0]) [] (fun _ => [(h0, .inr (5, fsX6))]) := by
  refine zn_aload_n (n := 1) (i := 0) rfl dX6_init_0 rfl ?_
  refine zn_objInit (n := 4) rfl dX6_init_1 zio_X6 zio_1 zio_2 ⟨Nat.le_of_ble_eq_true rfl, Nat.le_of_ble_eq_true rfl⟩ (Nat.le_of_ble_eq_true rfl) ?_
  refine zn_aload_n (n := 5) (i := 0) rfl dX6_init_4 rfl ?_
  refine zn_new (ci := 6) (a' := 7) (b' := 583) (n := 8) rfl dX6_init_5 zuw_X7 tyX7_ok zq_180 zq_181 zq_120 rfl fsX7_ok (by omega) (by omega) (fun a1 => ?_)
  refine zn_dup (n := 9) rfl dX6_init_8 ?_
  refine zn_bipush (v := nI 16) (n := 11) rfl dX6_init_9 (by decide) ?_
  refine zn_bipush (v := nI 8) (n := 13) rfl dX6_init_11 (by decide) ?_
  refine zn_call (vs := [.int (nI 16), .int (nI 8)]) (a' := 6) (b' := 455) (n := 16) rfl dX6_init_13 zs_X6_11 ⟨Nat.le_of_ble_eq_true rfl, Nat.le_of_ble_eq_true rfl⟩ (Nat.le_of_ble_eq_true rfl) (by show 1 + 6 ≤ 7; omega) (by show 128 + 455 ≤ 583; omega) (Nat.le_of_ble_eq_true rfl) (fun _ => rfl) (nX7_init (r := 16) (k := 8) (by decide) (fun a2 => ?_))
  refine zn_putF (q0 := 0) (j := 0) (n := 19) rfl dX6_init_16 zuw_X6 tyX6_ok nmX6 (fun _ => rfl) rfl (by decide) zq_201 rfl rfl rfl (tyX6_ok 0 (by decide)) rfl rfl (Nat.le_of_ble_eq_true rfl) (fun _ => rfl) ?_
  refine zn_aload_n (n := 20) (i := 0) rfl dX6_init_19 rfl ?_
  refine zn_new (ci := 6) (a' := 5) (b' := 452) (n := 23) rfl dX6_init_20 zuw_X7 tyX7_ok zq_180 zq_181 zq_120 rfl fsX7_ok (by omega) (by omega) (fun a3 => ?_)
  refine zn_dup (n := 24) rfl dX6_init_23 ?_
  refine zn_bipush (v := nI 6) (n := 26) rfl dX6_init_24 (by decide) ?_
  refine zn_bipush (v := nI 6) (n := 28) rfl dX6_init_26 (by decide) ?_
  refine zn_call (vs := [.int (nI 6), .int (nI 6)]) (a' := 4) (b' := 416) (n := 31) rfl dX6_init_28 zs_X6_11 ⟨Nat.le_of_ble_eq_true rfl, Nat.le_of_ble_eq_true rfl⟩ (Nat.le_of_ble_eq_true rfl) (by show 1 + 4 ≤ 5; omega) (by show 36 + 416 ≤ 452; omega) (Nat.le_of_ble_eq_true rfl) (fun _ => rfl) (nX7_init (r := 6) (k := 6) (by decide) (fun a4 => ?_))
  refine zn_putF (q0 := 0) (j := 1) (n := 34) rfl dX6_init_31 zuw_X6 tyX6_ok nmX6 (fun _ => rfl) rfl (by decide) zq_205 rfl rfl rfl (tyX6_ok 1 (by decide)) rfl rfl (Nat.le_of_ble_eq_true rfl) (fun _ => rfl) ?_
  refine zn_aload_n (n := 35) (i := 0) rfl dX6_init_34 rfl ?_
  refine zn_new (ci := 6) (a' := 3) (b' := 413) (n := 38) rfl dX6_init_35 zuw_X7 tyX7_ok zq_180 zq_181 zq_120 rfl fsX7_ok (by omega) (by omega) (fun a5 => ?_)
  refine zn_dup (n := 39) rfl dX6_init_38 ?_
  refine zn_bipush (v := nI 10) (n := 41) rfl dX6_init_39 (by decide) ?_
  refine zn_bipush (v := nI 21) (n := 43) rfl dX6_init_41 (by decide) ?_
  refine zn_call (vs := [.int (nI 10), .int (nI 21)]) (a' := 2) (b' := 203) (n := 46) rfl dX6_init_43 zs_X6_11 ⟨Nat.le_of_ble_eq_true rfl, Nat.le_of_ble_eq_true rfl⟩ (Nat.le_of_ble_eq_true rfl) (by show 1 + 2 ≤ 3; omega) (by show 210 + 203 ≤ 413; omega) (Nat.le_of_ble_eq_true rfl) (fun _ => rfl) (nX7_init (r := 10) (k := 21) (by decide) (fun a6 => ?_))
  refine zn_putF (q0 := 0) (j := 2) (n := 49) rfl dX6_init_46 zuw_X6 tyX6_ok nmX6 (fun _ => rfl) rfl (by decide) zq_209 rfl rfl rfl (tyX6_ok 2 (by decide)) rfl rfl (Nat.le_of_ble_eq_true rfl) (fun _ => rfl) ?_
  refine zn_aload_n (n := 50) (i := 0) rfl dX6_init_49 rfl ?_
  refine zn_new (ci := 6) (a' := 1) (b' := 200) (n := 53) rfl dX6_init_50 zuw_X7 tyX7_ok zq_180 zq_181 zq_120 rfl fsX7_ok (by omega) (by omega) (fun a7 => ?_)
  refine zn_dup (n := 54) rfl dX6_init_53 ?_
  refine zn_bipush (v := nI 40) (n := 56) rfl dX6_init_54 (by decide) ?_
  refine zn_iconst (v := nI 5) (n := 57) rfl dX6_init_56 (by decide) ?_
  refine zn_call (vs := [.int (nI 40), .int (nI 5)]) (a' := 0) (b' := 0) (n := 60) rfl dX6_init_57 zs_X6_11 ⟨Nat.le_of_ble_eq_true rfl, Nat.le_of_ble_eq_true rfl⟩ (Nat.le_of_ble_eq_true rfl) (by show 1 + 0 ≤ 1; omega) (by show 200 + 0 ≤ 200; omega) (Nat.le_of_ble_eq_true rfl) (fun _ => rfl) (nX7_init (r := 40) (k := 5) (by decide) (fun a8 => ?_))
  refine zn_putF (q0 := 0) (j := 3) (n := 63) rfl dX6_init_60 zuw_X6 tyX6_ok nmX6 (fun _ => rfl) rfl (by decide) zq_214 rfl rfl rfl (tyX6_ok 3 (by decide)) rfl rfl (Nat.le_of_ble_eq_true rfl) (fun _ => rfl) ?_
  refine zn_aload_n (n := 64) (i := 0) rfl dX6_init_63 rfl ?_
  refine zn_iconst (v := 1) (n := 65) rfl dX6_init_64 (by decide) ?_
  refine zn_put (q0 := 0) (j := 4) (n := 68) rfl dX6_init_65 zuw_X6 tyX6_ok nmX6 (fun _ => rfl) rfl (by decide) zq_216 rfl rfl (tyX6_ok 4 (by decide)) rfl rfl (Nat.le_of_ble_eq_true rfl) (fun _ => rfl) ?_
  exact zn_return dX6_init_68 (h a1 a2 a3 a4 a5 a6 a7 a8)
def wAuc (h0 a1 a2 a3 a4 : Nat) : zw := fun cy => [(h0, .inr (0, [.ref a1, .ref a3, .int 0, .int 0, .int 0, .int 0])), (a1, .inr (3, [.ref a2])), (a2, .inl (cy 2, 11, .inr (.inl (fun _ => 0)))), (a3, .inr (6, [.int (nI 4), .ref a4, .int 0])), (a4, .inl (cy 0, 40, .inl (fun _ => 0)))]
theorem zq_290 : Cond.classLink "RepairAuction$Auction" 9 "RepairAuction$Odds" ∈ zTB := zq 290 (by decide +kernel) rfl
theorem zq_291 : Cond.instantiable "RepairAuction$Odds" 1 ∈ zTB := zq 291 (by decide +kernel) rfl
theorem zq_292 : Cond.methodLinkNest "RepairAuction$Auction" 11 ⟨"RepairAuction$Odds", "<init>", "()V"⟩ "RepairAuction" ∈ zNl := zqn 292 (by decide +kernel) rfl
theorem zq_293 : Cond.instanceMethod ⟨"RepairAuction$Odds", "<init>", "()V"⟩ ∈ zTB := zq 293 (by decide +kernel) rfl
theorem zq_294 : Cond.code ⟨"RepairAuction$Odds", "<init>", "()V"⟩ prog_6_method_1_code 1 none ∈ zTB := zq 294 (by decide +kernel) rfl
theorem zs_X0_11 : zSi RX0 11 yX4_init cX4_init 1 0 := ⟨Or.inr ⟨"RepairAuction", zq_292⟩, zq_293, zq_122, zq_294, by decide +kernel, by decide +kernel, rfl⟩
theorem zq_301 : Cond.classLink "RepairAuction$Auction" 18 "RepairAuction$Table" ∈ zTB := zq 301 (by decide +kernel) rfl
theorem zq_302 : Cond.methodLink "RepairAuction$Auction" 20 ⟨"RepairAuction$Table", "<init>", "(II)V"⟩ ∈ zTB := zq 302 (by decide +kernel) rfl
theorem zs_X0_20 : zSi RX0 20 yX7_init cX7_init 3 2 := ⟨Or.inl zq_302, zq_183, zq_120, zq_184, by decide +kernel, by decide +kernel, rfl⟩
theorem nX0_init {h0 : Nat} {Q : zw → Prop} (h : ∀ a1 a2 a3 a4, Q (wAuc h0 a1 a2 a3 a4)) : zN yX0_init cX0_init 1 { frames := 2, cells := 4, slots := 55, locals := 60 } Q 4 55 0 (zEnt 1 [.ref h0]) [] (fun _ => [(h0, .inr (0, fsX0))]) := by
  refine zn_aload_n (n := 1) (i := 0) rfl dX0_init_0 rfl ?_
  refine zn_objInit (n := 4) rfl dX0_init_1 zio_X0 zio_1 zio_2 ⟨Nat.le_of_ble_eq_true rfl, Nat.le_of_ble_eq_true rfl⟩ (Nat.le_of_ble_eq_true rfl) ?_
  refine zn_aload_n (n := 5) (i := 0) rfl dX0_init_4 rfl ?_
  refine zn_new (ci := 3) (a' := 3) (b' := 54) (n := 8) rfl dX0_init_5 zuw_X4 tyX4_ok zq_290 zq_291 zq_122 rfl fsX4_ok (by omega) (by omega) (fun a1 => ?_)
  refine zn_dup (n := 9) rfl dX0_init_8 ?_
  refine zn_call (vs := []) (a' := 2) (b' := 43) (n := 12) rfl dX0_init_9 zs_X0_11 ⟨Nat.le_of_ble_eq_true rfl, Nat.le_of_ble_eq_true rfl⟩ (Nat.le_of_ble_eq_true rfl) (by show 1 + 2 ≤ 3; omega) (by show 11 + 43 ≤ 54; omega) (Nat.le_of_ble_eq_true rfl) (fun _ => rfl) (nX4_init (fun a2 => ?_))
  refine zn_putF (q0 := 0) (j := 0) (n := 15) rfl dX0_init_12 zuw_X0 tyX0_ok nmX0 (fun _ => rfl) rfl (by decide) zq_303 rfl rfl rfl (tyX0_ok 0 (by decide)) rfl rfl (Nat.le_of_ble_eq_true rfl) (fun _ => rfl) ?_
  refine zn_aload_n (n := 16) (i := 0) rfl dX0_init_15 rfl ?_
  refine zn_new (ci := 6) (a' := 1) (b' := 40) (n := 19) rfl dX0_init_16 zuw_X7 tyX7_ok zq_301 zq_181 zq_120 rfl fsX7_ok (by omega) (by omega) (fun a3 => ?_)
  refine zn_dup (n := 20) rfl dX0_init_19 ?_
  refine zn_bipush (v := nI 10) (n := 22) rfl dX0_init_20 (by decide) ?_
  refine zn_iconst (v := nI 4) (n := 23) rfl dX0_init_22 (by decide) ?_
  refine zn_call (vs := [.int (nI 10), .int (nI 4)]) (a' := 0) (b' := 0) (n := 26) rfl dX0_init_23 zs_X0_20 ⟨Nat.le_of_ble_eq_true rfl, Nat.le_of_ble_eq_true rfl⟩ (Nat.le_of_ble_eq_true rfl) (by show 1 + 0 ≤ 1; omega) (by show 40 + 0 ≤ 40; omega) (Nat.le_of_ble_eq_true rfl) (fun _ => rfl) (nX7_init (r := 10) (k := 4) (by decide) (fun a4 => ?_))
  refine zn_putF (q0 := 0) (j := 1) (n := 29) rfl dX0_init_26 zuw_X0 tyX0_ok nmX0 (fun _ => rfl) rfl (by decide) zq_305 rfl rfl rfl (tyX0_ok 1 (by decide)) rfl rfl (Nat.le_of_ble_eq_true rfl) (fun _ => rfl) ?_
  exact zn_return dX0_init_29 (h a1 a2 a3 a4)
theorem zq_335 : Cond.classLink "RepairAuction$Forecast" 9 "RepairAuction$Ring" ∈ zTB := zq 335 (by decide +kernel) rfl
theorem zq_175 : Cond.instantiable "RepairAuction$Ring" 10 ∈ zTB := zq 175 (by decide +kernel) rfl
theorem zq_336 : Cond.methodLinkNest "RepairAuction$Forecast" 11 ⟨"RepairAuction$Ring", "<init>", "()V"⟩ "RepairAuction" ∈ zNl := zqn 336 (by decide +kernel) rfl
theorem zq_177 : Cond.instanceMethod ⟨"RepairAuction$Ring", "<init>", "()V"⟩ ∈ zTB := zq 177 (by decide +kernel) rfl
theorem zq_178 : Cond.code ⟨"RepairAuction$Ring", "<init>", "()V"⟩ prog_8_method_1_code 1 none ∈ zTB := zq 178 (by decide +kernel) rfl
theorem zs_X2_11 : zSi RX2 11 yX6_init cX6_init 1 0 := ⟨Or.inr ⟨"RepairAuction", zq_336⟩, zq_177, zq_119, zq_178, by decide +kernel, by decide +kernel, rfl⟩
theorem zq_337 : Cond.classLink "RepairAuction$Forecast" 18 "RepairAuction$Auction" ∈ zTB := zq 337 (by decide +kernel) rfl
theorem zq_285 : Cond.instantiable "RepairAuction$Auction" 6 ∈ zTB := zq 285 (by decide +kernel) rfl
theorem zq_338 : Cond.methodLinkNest "RepairAuction$Forecast" 20 ⟨"RepairAuction$Auction", "<init>", "()V"⟩ "RepairAuction" ∈ zNl := zqn 338 (by decide +kernel) rfl
theorem zq_287 : Cond.instanceMethod ⟨"RepairAuction$Auction", "<init>", "()V"⟩ ∈ zTB := zq 287 (by decide +kernel) rfl
theorem zq_288 : Cond.code ⟨"RepairAuction$Auction", "<init>", "()V"⟩ prog_2_method_1_code 1 none ∈ zTB := zq 288 (by decide +kernel) rfl
theorem zs_X2_20 : zSi RX2 20 yX0_init cX0_init 1 0 := ⟨Or.inr ⟨"RepairAuction", zq_338⟩, zq_287, zq_121, zq_288, by decide +kernel, by decide +kernel, rfl⟩
theorem nX2_init {h0 : Nat} {Q : zw → Prop} (h : ∀ a1 a2 a3 a4 a5 a6 a7 a8 a9 a10 a11 a12 a13 a14, Q (fun cy => (h0, .inr (2, [.ref a1, .ref a10, .int 0, .long 0])) :: ((wRing a1 a2 a3 a4 a5 a6 a7 a8 a9 cy) ++ (wAuc a10 a11 a12 a13 a14 cy)))) : zN yX2_init cX2_init 1 { frames := 3, cells := 14, slots := 657, locals := 90 } Q 14 657 0 (zEnt 1 [.ref h0]) [] (fun _ => [(h0, .inr (2, fsX2))]) := by
  refine zn_aload_n (n := 1) (i := 0) rfl dX2_init_0 rfl ?_
  refine zn_objInit (n := 4) rfl dX2_init_1 zio_X2 zio_1 zio_2 ⟨Nat.le_of_ble_eq_true rfl, Nat.le_of_ble_eq_true rfl⟩ (Nat.le_of_ble_eq_true rfl) ?_
  refine zn_aload_n (n := 5) (i := 0) rfl dX2_init_4 rfl ?_
  refine zn_new (ci := 5) (a' := 13) (b' := 647) (n := 8) rfl dX2_init_5 zuw_X6 tyX6_ok zq_335 zq_175 zq_119 rfl fsX6_ok (by omega) (by omega) (fun a1 => ?_)
  refine zn_dup (n := 9) rfl dX2_init_8 ?_
  refine zn_call (vs := []) (a' := 5) (b' := 61) (n := 12) rfl dX2_init_9 zs_X2_11 ⟨Nat.le_of_ble_eq_true rfl, Nat.le_of_ble_eq_true rfl⟩ (Nat.le_of_ble_eq_true rfl) (by show 8 + 5 ≤ 13; omega) (by show 586 + 61 ≤ 647; omega) (Nat.le_of_ble_eq_true rfl) (fun _ => rfl) (nX6_init (fun a2 a3 a4 a5 a6 a7 a8 a9 => ?_))
  refine zn_putF (q0 := 0) (j := 0) (n := 15) rfl dX2_init_12 zuw_X2 tyX2_ok nmX2 (fun _ => rfl) rfl (by decide) zq_339 rfl rfl rfl (tyX2_ok 0 (by decide)) rfl rfl (Nat.le_of_ble_eq_true rfl) (fun _ => rfl) ?_
  refine zn_aload_n (n := 16) (i := 0) rfl dX2_init_15 rfl ?_
  refine zn_new (ci := 0) (a' := 4) (b' := 55) (n := 19) rfl dX2_init_16 zuw_X0 tyX0_ok zq_337 zq_285 zq_121 rfl fsX0_ok (by omega) (by omega) (fun a10 => ?_)
  refine zn_dup (n := 20) rfl dX2_init_19 ?_
  refine zn_call (vs := []) (a' := 0) (b' := 0) (n := 23) rfl dX2_init_20 zs_X2_20 ⟨Nat.le_of_ble_eq_true rfl, Nat.le_of_ble_eq_true rfl⟩ (Nat.le_of_ble_eq_true rfl) (by show 4 + 0 ≤ 4; omega) (by show 55 + 0 ≤ 55; omega) (Nat.le_of_ble_eq_true rfl) (fun _ => rfl) (nX0_init (fun a11 a12 a13 a14 => ?_))
  refine zn_putF (q0 := 0) (j := 1) (n := 26) rfl dX2_init_23 zuw_X2 tyX2_ok nmX2 (fun _ => rfl) rfl (by decide) zq_341 rfl rfl rfl (tyX2_ok 1 (by decide)) rfl rfl (Nat.le_of_ble_eq_true rfl) (fun _ => rfl) ?_
  exact zn_return dX2_init_26 (h a1 a2 a3 a4 a5 a6 a7 a8 a9 a10 a11 a12 a13 a14)
theorem zq_174 : Cond.classLink "RepairAuction$Parser" 9 "RepairAuction$Ring" ∈ zTB := zq 174 (by decide +kernel) rfl
theorem zq_176 : Cond.methodLinkNest "RepairAuction$Parser" 11 ⟨"RepairAuction$Ring", "<init>", "()V"⟩ "RepairAuction" ∈ zNl := zqn 176 (by decide +kernel) rfl
theorem zs_X5_11 : zSi RX5 11 yX6_init cX6_init 1 0 := ⟨Or.inr ⟨"RepairAuction", zq_176⟩, zq_177, zq_119, zq_178, by decide +kernel, by decide +kernel, rfl⟩
theorem nX5_init {h0 t0 : Nat} {Q : zw → Prop} (h : ∀ a1 a2 a3 a4 a5 a6 a7 a8 a9, Q (fun cy => (h0, .inr (4, [.ref t0, .ref a1, .int 0, .int 0, .int 0, .int 0, .int 0, .int 0])) :: (wRing a1 a2 a3 a4 a5 a6 a7 a8 a9 cy))) : zN yX5_init cX5_init 2 { frames := 3, cells := 9, slots := 596, locals := 90 } Q 9 596 0 (zEnt 2 [.ref h0, .ref t0]) [] (fun _ => [(h0, .inr (4, fsX5))]) := by
  refine zn_aload_n (n := 1) (i := 0) rfl dX5_init_0 rfl ?_
  refine zn_objInit (n := 4) rfl dX5_init_1 zio_X5 zio_1 zio_2 ⟨Nat.le_of_ble_eq_true rfl, Nat.le_of_ble_eq_true rfl⟩ (Nat.le_of_ble_eq_true rfl) ?_
  refine zn_aload_n (n := 5) (i := 0) rfl dX5_init_4 rfl ?_
  refine zn_new (ci := 5) (a' := 8) (b' := 586) (n := 8) rfl dX5_init_5 zuw_X6 tyX6_ok zq_174 zq_175 zq_119 rfl fsX6_ok (by omega) (by omega) (fun a1 => ?_)
  refine zn_dup (n := 9) rfl dX5_init_8 ?_
  refine zn_call (vs := []) (a' := 0) (b' := 0) (n := 12) rfl dX5_init_9 zs_X5_11 ⟨Nat.le_of_ble_eq_true rfl, Nat.le_of_ble_eq_true rfl⟩ (Nat.le_of_ble_eq_true rfl) (by show 8 + 0 ≤ 8; omega) (by show 586 + 0 ≤ 586; omega) (Nat.le_of_ble_eq_true rfl) (fun _ => rfl) (nX6_init (fun a2 a3 a4 a5 a6 a7 a8 a9 => ?_))
  refine zn_putF (q0 := 0) (j := 1) (n := 15) rfl dX5_init_12 zuw_X5 tyX5_ok nmX5 (fun _ => rfl) rfl (by decide) zq_255 rfl rfl rfl (tyX5_ok 1 (by decide)) rfl rfl (Nat.le_of_ble_eq_true rfl) (fun _ => rfl) ?_
  refine zn_aload_n (n := 16) (i := 0) rfl dX5_init_15 rfl ?_
  refine zn_aload_n (n := 17) (i := 1) rfl dX5_init_16 rfl ?_
  refine zn_putF (q0 := 0) (j := 0) (n := 20) rfl dX5_init_17 zuw_X5 tyX5_ok nmX5 (fun _ => rfl) rfl (by decide) zq_254 rfl rfl rfl (tyX5_ok 0 (by decide)) rfl rfl (Nat.le_of_ble_eq_true rfl) (fun _ => rfl) ?_
  exact zn_return dX5_init_20 (h a1 a2 a3 a4 a5 a6 a7 a8 a9)
theorem zn_iinc1 {y : MethodName} {cc : ByteArray} {nL : Nat} {R : Room} {Q : zw → Prop} {a b pc n : Nat} {t : List (Option Value)} {st : List Value} {w : zw} {v0 : Option Value} {x v : Int32} {d : Int} (hn : pc + 3 = n) (hd : decode cc pc = .ok (.iinc 1 d, 3)) (hp : zB2 v0 = false) (hv : x + Int32.ofInt d = v) (hb9 : 1 < nL) (k : zN y cc nL R Q a b n (v0 :: some (.int v) :: t) st w) : zN y cc nL R Q a b pc (v0 :: some (.int x) :: t) st w := by
  subst hn
  intro la p e s m args below meth c D cy A hc H locs ls cells slots hP hD hS hl ha hb
  obtain ⟨hx, hcb, -⟩ := id hc
  obtain ⟨k9, hk9⟩ := List.getElem?_of_mem (zPr_mem (ad := id) (l := v0 :: some (.int x) :: t) (n := 0) (q := (1, .int x)) |>.mpr ⟨1, .int x, rfl, by simp [zC]⟩)
  refine lv_iinc hx hcb hd (zLR_has hl) hk9 hv hb9 rfl (fun ls' h' => ?_)
  exact k la p e s m args below meth c D cy A hc H locs ls' cells slots hP hD hS (zLR_put1 (l := v0 :: some (.int x) :: t) (v := .int v) h' (fun j u h h2 => by cases (show j = 0 by omega); exact zB2_cat hp (Option.some.inj h2))) ha hb
theorem zq_361 : Cond.classLink "RepairAuction$Undo" 9 "RepairAuction$Ring" ∈ zTB := zq 361 (by decide +kernel) rfl
theorem zq_363 : Cond.methodLinkNest "RepairAuction$Undo" 17 ⟨"RepairAuction$Ring", "<init>", "()V"⟩ "RepairAuction" ∈ zNl := zqn 363 (by decide +kernel) rfl
theorem zs_X8_17 : zSi RX8 17 yX6_init cX6_init 1 0 := ⟨Or.inr ⟨"RepairAuction", zq_363⟩, zq_177, zq_119, zq_178, by decide +kernel, by decide +kernel, rfl⟩
set_option maxRecDepth 100000 in
set_option maxHeartbeats 8000000 in
theorem nX8_init {h0 : Nat} {Q : zw → Prop} (h : ∀ a1 a2 a3 a4 a5 a6 a7 a8 a9 a10 a11 a12 a13 a14 a15 a16 a17 a18 a19 a20 a21 a22 a23 a24 a25 a26 a27 a28 a29 a30 a31 a32 a33 a34 a35 a36 a37 a38 a39 a40 a41 a42 a43 a44 a45 a46 a47 a48 a49 a50 a51 a52 a53 a54 a55 a56 a57 a58 a59 a60 a61 a62 a63 a64 a65 a66 a67 a68 a69 a70 a71 a72 a73, Q (fun cy => [(h0, .inr (7, [.ref a1, .int 0, .int 0])), (a1, .inl (cy 4, 8, .inr (.inr (.inr (.inr (va_up (va_up (va_up (va_up (va_up (va_up (va_up (va_up (fun _ => none) 0 (some a2)) 1 (some a11)) 2 (some a20)) 3 (some a29)) 4 (some a38)) 5 (some a47)) 6 (some a56)) 7 (some a65)))))))] ++ ((wRing a2 a3 a4 a5 a6 a7 a8 a9 a10 cy) ++ (wRing a11 a12 a13 a14 a15 a16 a17 a18 a19 cy) ++ (wRing a20 a21 a22 a23 a24 a25 a26 a27 a28 cy) ++ (wRing a29 a30 a31 a32 a33 a34 a35 a36 a37 cy) ++ (wRing a38 a39 a40 a41 a42 a43 a44 a45 a46 cy) ++ (wRing a47 a48 a49 a50 a51 a52 a53 a54 a55 cy) ++ (wRing a56 a57 a58 a59 a60 a61 a62 a63 a64 cy) ++ (wRing a65 a66 a67 a68 a69 a70 a71 a72 a73 cy)))) : zN yX8_init cX8_init 2 { frames := 3, cells := 73, slots := 4776, locals := 90 } Q 73 4776 0 (zEnt 2 [.ref h0]) [] (fun _ => [(h0, .inr (7, fsX8))]) := by
  refine zn_aload_n (n := 1) (i := 0) rfl dX8_init_0 rfl ?_
  refine zn_objInit (n := 4) rfl dX8_init_1 zio_X8 zio_1 zio_2 ⟨Nat.le_of_ble_eq_true rfl, Nat.le_of_ble_eq_true rfl⟩ (Nat.le_of_ble_eq_true rfl) ?_
  refine zn_aload_n (n := 5) (i := 0) rfl dX8_init_4 rfl ?_
  refine zn_bipush (v := nI 8) (n := 7) rfl dX8_init_5 (by decide) ?_
  refine zn_newq (N' := 8) (a' := 72) (b' := 4768) (n := 10) rfl dX8_init_7 zq_361 (by decide) (by decide) (by decide) (by omega) (by omega) (fun a1 => ?_)
  refine zn_putF (q0 := 0) (j := 0) (n := 13) rfl dX8_init_10 zuw_X8 tyX8_ok nmX8 (fun _ => rfl) rfl (by decide) zq_364 rfl rfl rfl (tyX8_ok 0 (by decide)) rfl rfl (Nat.le_of_ble_eq_true rfl) (fun _ => rfl) ?_
  refine zn_iconst (v := nI 0) (n := 14) rfl dX8_init_13 (by decide) ?_
  refine zn_istore1 (n := 15) rfl dX8_init_14 rfl (Nat.le_of_ble_eq_true rfl) ?_
  refine zn_iload_n (n := 16) (i := 1) rfl dX8_init_15 rfl ?_
  refine zn_aload_n (n := 17) (i := 0) rfl dX8_init_16 rfl ?_
  refine zn_get (q0 := 0) (j := 0) (n := 20) rfl dX8_init_17 zuw_X8 (fun _ => rfl) rfl (by decide) zq_364 rfl rfl ?_
  refine zn_alen (q0 := 1) (t9 := 4) (x := (8, _)) (v := nI 8) (n := 21) rfl dX8_init_20 (fun _ => rfl) (fun _ => rfl) rfl ?_
  refine zn_icmp_ge (n := 24) (tgt := 43) rfl dX8_init_21 (by decide) (fun h9 => absurd h9 (by decide)) (fun _ => ?_)
  refine zn_aload_n (n := 25) (i := 0) rfl dX8_init_24 rfl ?_
  refine zn_get (q0 := 0) (j := 0) (n := 28) rfl dX8_init_25 zuw_X8 (fun _ => rfl) rfl (by decide) zq_364 rfl rfl ?_
  refine zn_iload_n (n := 29) (i := 1) rfl dX8_init_28 rfl ?_
  refine zn_new (ci := 5) (a' := 71) (b' := 4758) (n := 32) rfl dX8_init_29 zuw_X6 tyX6_ok zq_361 zq_175 zq_119 rfl fsX6_ok (by omega) (by omega) (fun a2 => ?_)
  refine zn_dup (n := 33) rfl dX8_init_32 ?_
  refine zn_call (vs := []) (a' := 63) (b' := 4172) (n := 36) rfl dX8_init_33 zs_X8_17 ⟨Nat.le_of_ble_eq_true rfl, Nat.le_of_ble_eq_true rfl⟩ (Nat.le_of_ble_eq_true rfl) (by show 8 + 63 ≤ 71; omega) (by show 586 + 4172 ≤ 4758; omega) (Nat.le_of_ble_eq_true rfl) (fun _ => rfl) (nX6_init (fun a3 a4 a5 a6 a7 a8 a9 a10 => ?_))
  refine zn_aastore (q0 := 1) (qk := 2) (vs := [_, _, _, _, _, _, _, _, _, _]) (n := 37) rfl dX8_init_36 (fun _ => rfl) (fun _ => rfl) (vp_in_nI (by decide) (by decide)) (fun _ => rfl) ?_
  refine zn_iinc1 (v := nI 1) (n := 40) rfl dX8_init_37 rfl (by decide) (Nat.le_of_ble_eq_true rfl) ?_
  refine zn_goto (tgt := 15) dX8_init_40 (by decide) ?_
  refine zn_iload_n (n := 16) (i := 1) rfl dX8_init_15 rfl ?_
  refine zn_aload_n (n := 17) (i := 0) rfl dX8_init_16 rfl ?_
  refine zn_get (q0 := 0) (j := 0) (n := 20) rfl dX8_init_17 zuw_X8 (fun _ => rfl) rfl (by decide) zq_364 rfl rfl ?_
  refine zn_alen (q0 := 1) (t9 := 4) (x := (8, _)) (v := nI 8) (n := 21) rfl dX8_init_20 (fun _ => rfl) (fun _ => rfl) rfl ?_
  refine zn_icmp_ge (n := 24) (tgt := 43) rfl dX8_init_21 (by decide) (fun h9 => absurd h9 (by decide)) (fun _ => ?_)
  refine zn_aload_n (n := 25) (i := 0) rfl dX8_init_24 rfl ?_
  refine zn_get (q0 := 0) (j := 0) (n := 28) rfl dX8_init_25 zuw_X8 (fun _ => rfl) rfl (by decide) zq_364 rfl rfl ?_
  refine zn_iload_n (n := 29) (i := 1) rfl dX8_init_28 rfl ?_
  refine zn_new (ci := 5) (a' := 62) (b' := 4162) (n := 32) rfl dX8_init_29 zuw_X6 tyX6_ok zq_361 zq_175 zq_119 rfl fsX6_ok (by omega) (by omega) (fun a11 => ?_)
  refine zn_dup (n := 33) rfl dX8_init_32 ?_
  refine zn_call (vs := []) (a' := 54) (b' := 3576) (n := 36) rfl dX8_init_33 zs_X8_17 ⟨Nat.le_of_ble_eq_true rfl, Nat.le_of_ble_eq_true rfl⟩ (Nat.le_of_ble_eq_true rfl) (by show 8 + 54 ≤ 62; omega) (by show 586 + 3576 ≤ 4162; omega) (Nat.le_of_ble_eq_true rfl) (fun _ => rfl) (nX6_init (fun a12 a13 a14 a15 a16 a17 a18 a19 => ?_))
  refine zn_aastore (q0 := 1) (qk := 11) (vs := [_, _, _, _, _, _, _, _, _, _]) (n := 37) rfl dX8_init_36 (fun _ => rfl) (fun _ => rfl) (vp_in_nI (by decide) (by decide)) (fun _ => rfl) ?_
  refine zn_iinc1 (v := nI 2) (n := 40) rfl dX8_init_37 rfl (by decide) (Nat.le_of_ble_eq_true rfl) ?_
  refine zn_goto (tgt := 15) dX8_init_40 (by decide) ?_
  refine zn_iload_n (n := 16) (i := 1) rfl dX8_init_15 rfl ?_
  refine zn_aload_n (n := 17) (i := 0) rfl dX8_init_16 rfl ?_
  refine zn_get (q0 := 0) (j := 0) (n := 20) rfl dX8_init_17 zuw_X8 (fun _ => rfl) rfl (by decide) zq_364 rfl rfl ?_
  refine zn_alen (q0 := 1) (t9 := 4) (x := (8, _)) (v := nI 8) (n := 21) rfl dX8_init_20 (fun _ => rfl) (fun _ => rfl) rfl ?_
  refine zn_icmp_ge (n := 24) (tgt := 43) rfl dX8_init_21 (by decide) (fun h9 => absurd h9 (by decide)) (fun _ => ?_)
  refine zn_aload_n (n := 25) (i := 0) rfl dX8_init_24 rfl ?_
  refine zn_get (q0 := 0) (j := 0) (n := 28) rfl dX8_init_25 zuw_X8 (fun _ => rfl) rfl (by decide) zq_364 rfl rfl ?_
  refine zn_iload_n (n := 29) (i := 1) rfl dX8_init_28 rfl ?_
  refine zn_new (ci := 5) (a' := 53) (b' := 3566) (n := 32) rfl dX8_init_29 zuw_X6 tyX6_ok zq_361 zq_175 zq_119 rfl fsX6_ok (by omega) (by omega) (fun a20 => ?_)
  refine zn_dup (n := 33) rfl dX8_init_32 ?_
  refine zn_call (vs := []) (a' := 45) (b' := 2980) (n := 36) rfl dX8_init_33 zs_X8_17 ⟨Nat.le_of_ble_eq_true rfl, Nat.le_of_ble_eq_true rfl⟩ (Nat.le_of_ble_eq_true rfl) (by show 8 + 45 ≤ 53; omega) (by show 586 + 2980 ≤ 3566; omega) (Nat.le_of_ble_eq_true rfl) (fun _ => rfl) (nX6_init (fun a21 a22 a23 a24 a25 a26 a27 a28 => ?_))
  refine zn_aastore (q0 := 1) (qk := 20) (vs := [_, _, _, _, _, _, _, _, _, _]) (n := 37) rfl dX8_init_36 (fun _ => rfl) (fun _ => rfl) (vp_in_nI (by decide) (by decide)) (fun _ => rfl) ?_
  refine zn_iinc1 (v := nI 3) (n := 40) rfl dX8_init_37 rfl (by decide) (Nat.le_of_ble_eq_true rfl) ?_
  refine zn_goto (tgt := 15) dX8_init_40 (by decide) ?_
  refine zn_iload_n (n := 16) (i := 1) rfl dX8_init_15 rfl ?_
  refine zn_aload_n (n := 17) (i := 0) rfl dX8_init_16 rfl ?_
  refine zn_get (q0 := 0) (j := 0) (n := 20) rfl dX8_init_17 zuw_X8 (fun _ => rfl) rfl (by decide) zq_364 rfl rfl ?_
  refine zn_alen (q0 := 1) (t9 := 4) (x := (8, _)) (v := nI 8) (n := 21) rfl dX8_init_20 (fun _ => rfl) (fun _ => rfl) rfl ?_
  refine zn_icmp_ge (n := 24) (tgt := 43) rfl dX8_init_21 (by decide) (fun h9 => absurd h9 (by decide)) (fun _ => ?_)
  refine zn_aload_n (n := 25) (i := 0) rfl dX8_init_24 rfl ?_
  refine zn_get (q0 := 0) (j := 0) (n := 28) rfl dX8_init_25 zuw_X8 (fun _ => rfl) rfl (by decide) zq_364 rfl rfl ?_
  refine zn_iload_n (n := 29) (i := 1) rfl dX8_init_28 rfl ?_
  refine zn_new (ci := 5) (a' := 44) (b' := 2970) (n := 32) rfl dX8_init_29 zuw_X6 tyX6_ok zq_361 zq_175 zq_119 rfl fsX6_ok (by omega) (by omega) (fun a29 => ?_)
  refine zn_dup (n := 33) rfl dX8_init_32 ?_
  refine zn_call (vs := []) (a' := 36) (b' := 2384) (n := 36) rfl dX8_init_33 zs_X8_17 ⟨Nat.le_of_ble_eq_true rfl, Nat.le_of_ble_eq_true rfl⟩ (Nat.le_of_ble_eq_true rfl) (by show 8 + 36 ≤ 44; omega) (by show 586 + 2384 ≤ 2970; omega) (Nat.le_of_ble_eq_true rfl) (fun _ => rfl) (nX6_init (fun a30 a31 a32 a33 a34 a35 a36 a37 => ?_))
  refine zn_aastore (q0 := 1) (qk := 29) (vs := [_, _, _, _, _, _, _, _, _, _]) (n := 37) rfl dX8_init_36 (fun _ => rfl) (fun _ => rfl) (vp_in_nI (by decide) (by decide)) (fun _ => rfl) ?_
  refine zn_iinc1 (v := nI 4) (n := 40) rfl dX8_init_37 rfl (by decide) (Nat.le_of_ble_eq_true rfl) ?_
  refine zn_goto (tgt := 15) dX8_init_40 (by decide) ?_
  refine zn_iload_n (n := 16) (i := 1) rfl dX8_init_15 rfl ?_
  refine zn_aload_n (n := 17) (i := 0) rfl dX8_init_16 rfl ?_
  refine zn_get (q0 := 0) (j := 0) (n := 20) rfl dX8_init_17 zuw_X8 (fun _ => rfl) rfl (by decide) zq_364 rfl rfl ?_
  refine zn_alen (q0 := 1) (t9 := 4) (x := (8, _)) (v := nI 8) (n := 21) rfl dX8_init_20 (fun _ => rfl) (fun _ => rfl) rfl ?_
  refine zn_icmp_ge (n := 24) (tgt := 43) rfl dX8_init_21 (by decide) (fun h9 => absurd h9 (by decide)) (fun _ => ?_)
  refine zn_aload_n (n := 25) (i := 0) rfl dX8_init_24 rfl ?_
  refine zn_get (q0 := 0) (j := 0) (n := 28) rfl dX8_init_25 zuw_X8 (fun _ => rfl) rfl (by decide) zq_364 rfl rfl ?_
  refine zn_iload_n (n := 29) (i := 1) rfl dX8_init_28 rfl ?_
  refine zn_new (ci := 5) (a' := 35) (b' := 2374) (n := 32) rfl dX8_init_29 zuw_X6 tyX6_ok zq_361 zq_175 zq_119 rfl fsX6_ok (by omega) (by omega) (fun a38 => ?_)
  refine zn_dup (n := 33) rfl dX8_init_32 ?_
  refine zn_call (vs := []) (a' := 27) (b' := 1788) (n := 36) rfl dX8_init_33 zs_X8_17 ⟨Nat.le_of_ble_eq_true rfl, Nat.le_of_ble_eq_true rfl⟩ (Nat.le_of_ble_eq_true rfl) (by show 8 + 27 ≤ 35; omega) (by show 586 + 1788 ≤ 2374; omega) (Nat.le_of_ble_eq_true rfl) (fun _ => rfl) (nX6_init (fun a39 a40 a41 a42 a43 a44 a45 a46 => ?_))
  refine zn_aastore (q0 := 1) (qk := 38) (vs := [_, _, _, _, _, _, _, _, _, _]) (n := 37) rfl dX8_init_36 (fun _ => rfl) (fun _ => rfl) (vp_in_nI (by decide) (by decide)) (fun _ => rfl) ?_
  refine zn_iinc1 (v := nI 5) (n := 40) rfl dX8_init_37 rfl (by decide) (Nat.le_of_ble_eq_true rfl) ?_
  refine zn_goto (tgt := 15) dX8_init_40 (by decide) ?_
  refine zn_iload_n (n := 16) (i := 1) rfl dX8_init_15 rfl ?_
  refine zn_aload_n (n := 17) (i := 0) rfl dX8_init_16 rfl ?_
  refine zn_get (q0 := 0) (j := 0) (n := 20) rfl dX8_init_17 zuw_X8 (fun _ => rfl) rfl (by decide) zq_364 rfl rfl ?_
  refine zn_alen (q0 := 1) (t9 := 4) (x := (8, _)) (v := nI 8) (n := 21) rfl dX8_init_20 (fun _ => rfl) (fun _ => rfl) rfl ?_
  refine zn_icmp_ge (n := 24) (tgt := 43) rfl dX8_init_21 (by decide) (fun h9 => absurd h9 (by decide)) (fun _ => ?_)
  refine zn_aload_n (n := 25) (i := 0) rfl dX8_init_24 rfl ?_
  refine zn_get (q0 := 0) (j := 0) (n := 28) rfl dX8_init_25 zuw_X8 (fun _ => rfl) rfl (by decide) zq_364 rfl rfl ?_
  refine zn_iload_n (n := 29) (i := 1) rfl dX8_init_28 rfl ?_
  refine zn_new (ci := 5) (a' := 26) (b' := 1778) (n := 32) rfl dX8_init_29 zuw_X6 tyX6_ok zq_361 zq_175 zq_119 rfl fsX6_ok (by omega) (by omega) (fun a47 => ?_)
  refine zn_dup (n := 33) rfl dX8_init_32 ?_
  refine zn_call (vs := []) (a' := 18) (b' := 1192) (n := 36) rfl dX8_init_33 zs_X8_17 ⟨Nat.le_of_ble_eq_true rfl, Nat.le_of_ble_eq_true rfl⟩ (Nat.le_of_ble_eq_true rfl) (by show 8 + 18 ≤ 26; omega) (by show 586 + 1192 ≤ 1778; omega) (Nat.le_of_ble_eq_true rfl) (fun _ => rfl) (nX6_init (fun a48 a49 a50 a51 a52 a53 a54 a55 => ?_))
  refine zn_aastore (q0 := 1) (qk := 47) (vs := [_, _, _, _, _, _, _, _, _, _]) (n := 37) rfl dX8_init_36 (fun _ => rfl) (fun _ => rfl) (vp_in_nI (by decide) (by decide)) (fun _ => rfl) ?_
  refine zn_iinc1 (v := nI 6) (n := 40) rfl dX8_init_37 rfl (by decide) (Nat.le_of_ble_eq_true rfl) ?_
  refine zn_goto (tgt := 15) dX8_init_40 (by decide) ?_
  refine zn_iload_n (n := 16) (i := 1) rfl dX8_init_15 rfl ?_
  refine zn_aload_n (n := 17) (i := 0) rfl dX8_init_16 rfl ?_
  refine zn_get (q0 := 0) (j := 0) (n := 20) rfl dX8_init_17 zuw_X8 (fun _ => rfl) rfl (by decide) zq_364 rfl rfl ?_
  refine zn_alen (q0 := 1) (t9 := 4) (x := (8, _)) (v := nI 8) (n := 21) rfl dX8_init_20 (fun _ => rfl) (fun _ => rfl) rfl ?_
  refine zn_icmp_ge (n := 24) (tgt := 43) rfl dX8_init_21 (by decide) (fun h9 => absurd h9 (by decide)) (fun _ => ?_)
  refine zn_aload_n (n := 25) (i := 0) rfl dX8_init_24 rfl ?_
  refine zn_get (q0 := 0) (j := 0) (n := 28) rfl dX8_init_25 zuw_X8 (fun _ => rfl) rfl (by decide) zq_364 rfl rfl ?_
  refine zn_iload_n (n := 29) (i := 1) rfl dX8_init_28 rfl ?_
  refine zn_new (ci := 5) (a' := 17) (b' := 1182) (n := 32) rfl dX8_init_29 zuw_X6 tyX6_ok zq_361 zq_175 zq_119 rfl fsX6_ok (by omega) (by omega) (fun a56 => ?_)
  refine zn_dup (n := 33) rfl dX8_init_32 ?_
  refine zn_call (vs := []) (a' := 9) (b' := 596) (n := 36) rfl dX8_init_33 zs_X8_17 ⟨Nat.le_of_ble_eq_true rfl, Nat.le_of_ble_eq_true rfl⟩ (Nat.le_of_ble_eq_true rfl) (by show 8 + 9 ≤ 17; omega) (by show 586 + 596 ≤ 1182; omega) (Nat.le_of_ble_eq_true rfl) (fun _ => rfl) (nX6_init (fun a57 a58 a59 a60 a61 a62 a63 a64 => ?_))
  refine zn_aastore (q0 := 1) (qk := 56) (vs := [_, _, _, _, _, _, _, _, _, _]) (n := 37) rfl dX8_init_36 (fun _ => rfl) (fun _ => rfl) (vp_in_nI (by decide) (by decide)) (fun _ => rfl) ?_
  refine zn_iinc1 (v := nI 7) (n := 40) rfl dX8_init_37 rfl (by decide) (Nat.le_of_ble_eq_true rfl) ?_
  refine zn_goto (tgt := 15) dX8_init_40 (by decide) ?_
  refine zn_iload_n (n := 16) (i := 1) rfl dX8_init_15 rfl ?_
  refine zn_aload_n (n := 17) (i := 0) rfl dX8_init_16 rfl ?_
  refine zn_get (q0 := 0) (j := 0) (n := 20) rfl dX8_init_17 zuw_X8 (fun _ => rfl) rfl (by decide) zq_364 rfl rfl ?_
  refine zn_alen (q0 := 1) (t9 := 4) (x := (8, _)) (v := nI 8) (n := 21) rfl dX8_init_20 (fun _ => rfl) (fun _ => rfl) rfl ?_
  refine zn_icmp_ge (n := 24) (tgt := 43) rfl dX8_init_21 (by decide) (fun h9 => absurd h9 (by decide)) (fun _ => ?_)
  refine zn_aload_n (n := 25) (i := 0) rfl dX8_init_24 rfl ?_
  refine zn_get (q0 := 0) (j := 0) (n := 28) rfl dX8_init_25 zuw_X8 (fun _ => rfl) rfl (by decide) zq_364 rfl rfl ?_
  refine zn_iload_n (n := 29) (i := 1) rfl dX8_init_28 rfl ?_
  refine zn_new (ci := 5) (a' := 8) (b' := 586) (n := 32) rfl dX8_init_29 zuw_X6 tyX6_ok zq_361 zq_175 zq_119 rfl fsX6_ok (by omega) (by omega) (fun a65 => ?_)
  refine zn_dup (n := 33) rfl dX8_init_32 ?_
  refine zn_call (vs := []) (a' := 0) (b' := 0) (n := 36) rfl dX8_init_33 zs_X8_17 ⟨Nat.le_of_ble_eq_true rfl, Nat.le_of_ble_eq_true rfl⟩ (Nat.le_of_ble_eq_true rfl) (by show 8 + 0 ≤ 8; omega) (by show 586 + 0 ≤ 586; omega) (Nat.le_of_ble_eq_true rfl) (fun _ => rfl) (nX6_init (fun a66 a67 a68 a69 a70 a71 a72 a73 => ?_))
  refine zn_aastore (q0 := 1) (qk := 65) (vs := [_, _, _, _, _, _, _, _, _, _]) (n := 37) rfl dX8_init_36 (fun _ => rfl) (fun _ => rfl) (vp_in_nI (by decide) (by decide)) (fun _ => rfl) ?_
  refine zn_iinc1 (v := nI 8) (n := 40) rfl dX8_init_37 rfl (by decide) (Nat.le_of_ble_eq_true rfl) ?_
  refine zn_goto (tgt := 15) dX8_init_40 (by decide) ?_
  refine zn_iload_n (n := 16) (i := 1) rfl dX8_init_15 rfl ?_
  refine zn_aload_n (n := 17) (i := 0) rfl dX8_init_16 rfl ?_
  refine zn_get (q0 := 0) (j := 0) (n := 20) rfl dX8_init_17 zuw_X8 (fun _ => rfl) rfl (by decide) zq_364 rfl rfl ?_
  refine zn_alen (q0 := 1) (t9 := 4) (x := (8, _)) (v := nI 8) (n := 21) rfl dX8_init_20 (fun _ => rfl) (fun _ => rfl) rfl ?_
  refine zn_icmp_ge (n := 24) (tgt := 43) rfl dX8_init_21 (by decide) (fun _ => ?_) (fun h9 => absurd (by decide) h9)
  exact zn_return dX8_init_43 (h a1 a2 a3 a4 a5 a6 a7 a8 a9 a10 a11 a12 a13 a14 a15 a16 a17 a18 a19 a20 a21 a22 a23 a24 a25 a26 a27 a28 a29 a30 a31 a32 a33 a34 a35 a36 a37 a38 a39 a40 a41 a42 a43 a44 a45 a46 a47 a48 a49 a50 a51 a52 a53 a54 a55 a56 a57 a58 a59 a60 a61 a62 a63 a64 a65 a66 a67 a68 a69 a70 a71 a72 a73)
