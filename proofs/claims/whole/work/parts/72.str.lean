/-! STRINGS -/
theorem zs_J0_9 : Cond.fieldLink RJ0 9 "java/lang/String" "value" "[B" ∈ zTB := zq 2190 (by decide +kernel) rfl
theorem zs_J0_1053 : Cond.fieldLink RJ0 1053 "jdk/internal/util/Preconditions" "SIOOBE_FORMATTER" "Ljava/util/function/BiFunction;" ∈ zTB := zq 485 (by decide +kernel) rfl
theorem zs_J0_38 : Cond.fieldLink RJ0 38 "java/lang/String" "COMPACT_STRINGS" "Z" ∈ zTB := zq 468 (by decide +kernel) rfl
theorem zs_J0_15 : Cond.fieldLink RJ0 15 "java/lang/String" "coder" "B" ∈ zTB := zq 2191 (by decide +kernel) rfl
theorem zs_X5_217 : Cond.fieldLinkNest RX5 217 "RepairAuction$Keyword" "text" "Ljava/lang/String;" "RepairAuction" ∈ zNl := zqn 2189 (by decide +kernel) rfl
theorem zs_X5_224 : Cond.fieldLinkNest RX5 224 "RepairAuction" "KEYWORDS" "[LRepairAuction$Keyword;" "RepairAuction" ∈ zNl := zqn 567 (by decide +kernel) rfl
theorem zs_X5_41 : Cond.fieldLink RX5 41 "RepairAuction$Keyword" "NODE" "LRepairAuction$Keyword;" ∈ zTB := zq 540 (by decide +kernel) rfl
theorem zs_X5_54 : Cond.fieldLink RX5 54 "RepairAuction$Keyword" "TENANT" "LRepairAuction$Keyword;" ∈ zTB := zq 607 (by decide +kernel) rfl
theorem zs_X5_60 : Cond.fieldLink RX5 60 "RepairAuction$Keyword" "GROUP" "LRepairAuction$Keyword;" ∈ zTB := zq 618 (by decide +kernel) rfl
theorem zs_X5_171 : Cond.fieldLink RX5 171 "RepairAuction$Keyword" "OF" "LRepairAuction$Keyword;" ∈ zTB := zq 624 (by decide +kernel) rfl
theorem zs_X5_180 : Cond.fieldLink RX5 180 "RepairAuction$Keyword" "KEY" "LRepairAuction$Keyword;" ∈ zTB := zq 626 (by decide +kernel) rfl
theorem zs_X5_183 : Cond.fieldLink RX5 183 "RepairAuction$Keyword" "DATA" "LRepairAuction$Keyword;" ∈ zTB := zq 628 (by decide +kernel) rfl
theorem zs_X5_186 : Cond.fieldLink RX5 186 "RepairAuction$Keyword" "PARITY" "LRepairAuction$Keyword;" ∈ zTB := zq 630 (by decide +kernel) rfl
theorem zs_X5_189 : Cond.fieldLink RX5 189 "RepairAuction$Keyword" "SIZE" "LRepairAuction$Keyword;" ∈ zTB := zq 632 (by decide +kernel) rfl
theorem zs_X5_192 : Cond.fieldLink RX5 192 "RepairAuction$Keyword" "VALUE" "LRepairAuction$Keyword;" ∈ zTB := zq 634 (by decide +kernel) rfl
theorem zs_X5_133 : Cond.fieldLink RX5 133 "RepairAuction$Keyword" "AT" "LRepairAuction$Keyword;" ∈ zTB := zq 581 (by decide +kernel) rfl
theorem zs_X5_141 : Cond.fieldLink RX5 141 "RepairAuction$Keyword" "ZONE" "LRepairAuction$Keyword;" ∈ zTB := zq 584 (by decide +kernel) rfl
theorem zs_X5_144 : Cond.fieldLink RX5 144 "RepairAuction$Keyword" "RISK" "LRepairAuction$Keyword;" ∈ zTB := zq 586 (by decide +kernel) rfl
theorem zs_X5_147 : Cond.fieldLink RX5 147 "RepairAuction$Keyword" "ROOM" "LRepairAuction$Keyword;" ∈ zTB := zq 588 (by decide +kernel) rfl
theorem zs_X5_73 : Cond.fieldLink RX5 73 "RepairAuction$Keyword" "RING" "LRepairAuction$Keyword;" ∈ zTB := zq 446 (by decide +kernel) rfl
theorem zs_X5_80 : Cond.fieldLink RX5 80 "RepairAuction$Keyword" "BANDWIDTH" "LRepairAuction$Keyword;" ∈ zTB := zq 513 (by decide +kernel) rfl
theorem zs_X5_91 : Cond.fieldLink RX5 91 "RepairAuction$Keyword" "CARRY" "LRepairAuction$Keyword;" ∈ zTB := zq 520 (by decide +kernel) rfl
theorem zs_X5_97 : Cond.fieldLink RX5 97 "RepairAuction$Keyword" "RESERVE" "LRepairAuction$Keyword;" ∈ zTB := zq 522 (by decide +kernel) rfl
theorem zs_X5_103 : Cond.fieldLink RX5 103 "RepairAuction$Keyword" "PRICE" "LRepairAuction$Keyword;" ∈ zTB := zq 524 (by decide +kernel) rfl
theorem zs_X5_161 : Cond.fieldLink RX5 161 "RepairAuction$Keyword" "INCOME" "LRepairAuction$Keyword;" ∈ zTB := zq 613 (by decide +kernel) rfl
theorem zs_X5_165 : Cond.fieldLink RX5 165 "RepairAuction$Keyword" "MOST" "LRepairAuction$Keyword;" ∈ zTB := zq 616 (by decide +kernel) rfl
theorem zs_X5_116 : Cond.fieldLink RX5 116 "RepairAuction$Keyword" "SECOND" "LRepairAuction$Keyword;" ∈ zTB := zq 530 (by decide +kernel) rfl
theorem zs_X5_119 : Cond.fieldLink RX5 119 "RepairAuction$Keyword" "UNIFORM" "LRepairAuction$Keyword;" ∈ zTB := zq 532 (by decide +kernel) rfl
theorem zs_X5_122 : Cond.fieldLink RX5 122 "RepairAuction$Keyword" "FIRST" "LRepairAuction$Keyword;" ∈ zTB := zq 534 (by decide +kernel) rfl
def kwl (i : Nat) : Nat := zKl.getD i 0
def kwc (i j : Nat) : Nat := ((zKb.getD i []).getD j 0).toNatClampNeg
theorem kwl_le : ∀ i, i < 23 → kwl i ≤ 9 := by decide
theorem kwl_gt : ∀ i, i < 23 → 0 < kwl i := by decide
theorem kwc_lt : ∀ i, i < 23 → ∀ j, j < 9 → kwc i j < 128 := by decide
theorem kwc_at : ∀ i, i < 23 → ∀ j, j < 9 → (zKb.getD i []).getD j 0 = nI (kwc i j) := by decide
theorem kwc_let : ∀ i, i < 23 → ∀ j, j < kwl i → 97 ≤ kwc i j ∧ kwc i j ≤ 122 := by decide
section Z72
variable {G : zGx} {y : MethodName} {cc : ByteArray} {nL : Nat} {ret : Option FieldType} {R : Room} {Q : Option Value → zM → Prop} {X : String → zM → Prop} {a b pc n : Nat} {l : List (Option Value)} {st : List Value} {M : zM}
theorem zldcwS {p : Program} {l : Launch} {e : Env} {R : Room} {s : State} {m : MethodId} {args : Array Value} {below : List Frame} {meth : Method} {c : Code} {T : State} {locs : List Loc} {cells slots : Nat}
    (X : Stand p l e R s m args below meth c T locs cells slots) (hexec : p.tables.exec = Jvm.exec) {own text : String} {index : Nat} {a : Addr} (hown : s.vm.findClass own = some m.cls)
    (hconst : (Cond.stringRef own index text).before args s = true) (hev : (Term.string own index).eval args s none [] s = some (.ref a)) {g : JFrame} (hg : g.method = m) (hdg : decode c.code g.pc = .ok (.ldc_w index, 3)) :
    ∀ target, Steps p.tables e below (T.setTop { g with pc := g.pc + 3, stack := .ref a :: g.stack }) target → Steps p.tables e below (T.setTop g) target := by
  obtain ⟨k, cf, i, a', hk, hcf, hcp, -, hr, hev'⟩ := Cond.stringRef_spec hown hconst
  cases hev.symm.trans hev'
  obtain ⟨k', hk', he⟩ := X.warmed.alike.2.2 _ _ hk
  have hr' : k'.resolved[index]? = some (some (.string a)) := by
    rcases X.warmed.entry hk hk' index with h | ⟨h, -⟩
    · rw [h]; exact hr
    · rw [hr] at h; cases h
  intro target hrest
  subst hg
  jvm_step X.here [hexec, hdg, ldc_w.wp_string (e := e) (s := T) (f := g) X.here.top hk' (by rw [he]; exact hcf) hcp hr']
  exact hrest
theorem zj_getkw {idx i : Nat} {nm : String} (hn : pc + 3 = n) (hd : decode cc pc = .ok (.getstatic idx, 3)) (h9 : i < 23) (hnm : zKn.getD i "" = nm) (hw : Cond.fieldLink y.cls idx "RepairAuction$Keyword" nm "LRepairAuction$Keyword;" ∈ zTB) (k : zJG G y cc nL ret R Q X a b n l (.ref (200 + i) :: st) M) : zJG G y cc nL ret R Q X a b pc l st M := by
  subst hn
  subst hnm
  intro la p e s m args below meth c D ad cy A hc H locs ls cells slots hP hS hl ha hb
  obtain ⟨hf, hx, hcb, hr, hml, hown, hts, hlk, het, hA, hi, hai, hK, hks⟩ := id hc
  exact va_gets hx hcb (hks.1 i h9) hS hown (hts _ hw) (fun _ h => h) hd (k la p e s m args below meth c D ad cy A hc H locs ls cells slots hP hS hl ha hb)
theorem zj_getkws {idx : Nat} (hn : pc + 3 = n) (hd : decode cc pc = .ok (.getstatic idx, 3)) (hw : ∃ host, Cond.fieldLinkNest y.cls idx "RepairAuction" "KEYWORDS" "[LRepairAuction$Keyword;" host ∈ zNl) (k : zJG G y cc nL ret R Q X a b n l (.ref 400 :: st) M) : zJG G y cc nL ret R Q X a b pc l st M := by
  subst hn
  obtain ⟨host, hw⟩ := hw
  intro la p e s m args below meth c D ad cy A hc H locs ls cells slots hP hS hl ha hb
  obtain ⟨hf, hx, hcb, hr, hml, hown, hts, hlk, het, hA, hi, hai, hK, hks⟩ := id hc
  exact va_getsN hx hcb hks.2.2.2.1 hS hown (hks.nest hw) (fun _ h => h) hd (k la p e s m args below meth c D ad cy A hc H locs ls cells slots hP hS hl ha hb)
theorem zj_lenkws (hn : pc + 1 = n) (hd : decode cc pc = .ok (.arraylength, 1)) (k : zJG G y cc nL ret R Q X a b n l (.int (nI 23) :: st) M) : zJG G y cc nL ret R Q X a b pc l (.ref 400 :: st) M := by
  subst hn
  intro la p e s m args below meth c D ad cy A hc H locs ls cells slots hP hS hl ha hb
  obtain ⟨hf, hx, hcb, hr, hml, hown, hts, hlk, het, hA, hi, hai, hK, hks⟩ := id hc
  exact va_tlen hx hcb hks.2.2.2.2.1 hS rfl hd (k la p e s m args below meth c D ad cy A hc H locs ls cells slots hP hS hl ha hb)
theorem zj_loadkws {i : Nat} (hn : pc + 1 = n) (hd : decode cc pc = .ok (.aaload, 1)) (h9 : i < 23) (k : zJG G y cc nL ret R Q X a b n l (.ref (200 + i) :: st) M) : zJG G y cc nL ret R Q X a b pc l (.int (nI i) :: .ref 400 :: st) M := by
  subst hn
  intro la p e s m args below meth c D ad cy A hc H locs ls cells slots hP hS hl ha hb
  obtain ⟨hf, hx, hcb, hr, hml, hown, hts, hlk, het, hA, hi, hai, hK, hks⟩ := id hc
  exact vb_tq hx hcb hks.2.2.2.2.1 hS (vp_in_nI h9 (by decide)) (by rw [nI_clamp (show i < 2 ^ 31 by omega)]; rfl) hd (k la p e s m args below meth c D ad cy A hc H locs ls cells slots hP hS hl ha hb)
theorem zj_gettext {idx i : Nat} (hn : pc + 3 = n) (hd : decode cc pc = .ok (.getfield idx, 3)) (h9 : i < 23) (hw : ∃ host, Cond.fieldLinkNest y.cls idx "RepairAuction$Keyword" "text" "Ljava/lang/String;" host ∈ zNl) (k : zJG G y cc nL ret R Q X a b n l (.ref (300 + i) :: st) M) : zJG G y cc nL ret R Q X a b pc l (.ref (200 + i) :: st) M := by
  subst hn
  obtain ⟨host, hw⟩ := hw
  intro la p e s m args below meth c D ad cy A hc H locs ls cells slots hP hS hl ha hb
  obtain ⟨hf, hx, hcb, hr, hml, hown, hts, hlk, het, hA, hi, hai, hK, hks⟩ := id hc
  obtain ⟨cf, k9, fi, f, cell, h1, h2, h3, h4, h5, h6⟩ := (hks.2.1 i h9).kept hS.2.1
  exact va_Wgetf hx hcb hown (hks.nest hw) h1 h2 h3 h4 (v := .ref (ad (300 + i))) h5 rfl rfl hd (k la p e s m args below meth c D ad cy A hc H locs ls cells slots hP hS hl ha hb)
theorem zj_getval {idx i : Nat} (hn : pc + 3 = n) (hd : decode cc pc = .ok (.getfield idx, 3)) (h9 : i < 23) (hw : Cond.fieldLink y.cls idx "java/lang/String" "value" "[B" ∈ zTB) (k : zJG G y cc nL ret R Q X a b n l (.ref (600 + i) :: st) M) : zJG G y cc nL ret R Q X a b pc l (.ref (300 + i) :: st) M := by
  subst hn
  intro la p e s m args below meth c D ad cy A hc H locs ls cells slots hP hS hl ha hb
  obtain ⟨hf, hx, hcb, hr, hml, hown, hts, hlk, het, hA, hi, hai, hK, hks⟩ := id hc
  exact vk_getf hx hcb (hks.2.2.1.1.1 i h9).2.2.1 hS hown (hts _ hw) (fun _ h => h) hd (k la p e s m args below meth c D ad cy A hc H locs ls cells slots hP hS hl ha hb)
theorem zj_getcoder {idx i : Nat} (hn : pc + 3 = n) (hd : decode cc pc = .ok (.getfield idx, 3)) (h9 : i < 23) (hw : Cond.fieldLink y.cls idx "java/lang/String" "coder" "B" ∈ zTB) (k : zJG G y cc nL ret R Q X a b n l (.int (nI 0) :: st) M) : zJG G y cc nL ret R Q X a b pc l (.ref (300 + i) :: st) M := by
  subst hn
  intro la p e s m args below meth c D ad cy A hc H locs ls cells slots hP hS hl ha hb
  obtain ⟨hf, hx, hcb, hr, hml, hown, hts, hlk, het, hA, hi, hai, hK, hks⟩ := id hc
  exact vk_getf hx hcb (hks.2.2.1.1.1 i h9).2.1 hS hown (hts _ hw) (fun _ h => h) hd (k la p e s m args below meth c D ad cy A hc H locs ls cells slots hP hS hl ha hb)
theorem zj_getcs {idx : Nat} (hn : pc + 3 = n) (hd : decode cc pc = .ok (.getstatic idx, 3)) (hw : Cond.fieldLink y.cls idx "java/lang/String" "COMPACT_STRINGS" "Z" ∈ zTB) (k : zJG G y cc nL ret R Q X a b n l (.int (nI 1) :: st) M) : zJG G y cc nL ret R Q X a b pc l st M := by
  subst hn
  intro la p e s m args below meth c D ad cy A hc H locs ls cells slots hP hS hl ha hb
  obtain ⟨hf, hx, hcb, hr, hml, hown, hts, hlk, het, hA, hi, hai, hK, hks⟩ := id hc
  exact va_gets hx hcb hks.2.2.1.2.1 hS hown (hts _ hw) (fun _ h => h) hd (k la p e s m args below meth c D ad cy A hc H locs ls cells slots hP hS hl ha hb)
theorem zj_getsf {idx : Nat} (hn : pc + 3 = n) (hd : decode cc pc = .ok (.getstatic idx, 3)) (hw : Cond.fieldLink y.cls idx "jdk/internal/util/Preconditions" "SIOOBE_FORMATTER" "Ljava/util/function/BiFunction;" ∈ zTB) (k1 : zJG G y cc nL ret R Q X a b n l (.null :: st) M) (k : zJG G y cc nL ret R Q X a b n l (.ref 700 :: st) M) : zJG G y cc nL ret R Q X a b pc l st M := by
  subst hn
  intro la p e s m args below meth c D ad cy A hc H locs ls cells slots hP hS hl ha hb
  obtain ⟨hf, hx, hcb, hr, hml, hown, hts, hlk, het, hA, hi, hai, hK, hks⟩ := id hc
  rcases hks.2.2.1.2.2 with h | h
  · exact va_gets hx hcb h hS hown (hts _ hw) (fun _ h => h) hd (k1 la p e s m args below meth c D ad cy A hc H locs ls cells slots hP hS hl ha hb)
  · exact va_gets hx hcb h hS hown (hts _ hw) (fun _ h => h) hd (k la p e s m args below meth c D ad cy A hc H locs ls cells slots hP hS hl ha hb)
theorem zj_lenstr {i : Nat} (hn : pc + 1 = n) (hd : decode cc pc = .ok (.arraylength, 1)) (h9 : i < 23) (k : zJG G y cc nL ret R Q X a b n l (.int (nI (kwl i)) :: st) M) : zJG G y cc nL ret R Q X a b pc l (.ref (600 + i) :: st) M := by
  subst hn
  intro la p e s m args below meth c D ad cy A hc H locs ls cells slots hP hS hl ha hb
  obtain ⟨hf, hx, hcb, hr, hml, hown, hts, hlk, het, hA, hi, hai, hK, hks⟩ := id hc
  exact va_tlen hx hcb (hks.2.2.1.1.1 i h9).2.2.2 hS rfl hd (k la p e s m args below meth c D ad cy A hc H locs ls cells slots hP hS hl ha hb)
theorem zj_loadstr {i j : Nat} (hn : pc + 1 = n) (hd : decode cc pc = .ok (.baload, 1)) (h9 : i < 23) (hj : j < kwl i) (k : zJG G y cc nL ret R Q X a b n l (.int (nI (kwc i j)) :: st) M) : zJG G y cc nL ret R Q X a b pc l (.int (nI j) :: .ref (600 + i) :: st) M := by
  subst hn
  intro la p e s m args below meth c D ad cy A hc H locs ls cells slots hP hS hl ha hb
  obtain ⟨hf, hx, hcb, hr, hml, hown, hts, hlk, het, hA, hi, hai, hK, hks⟩ := id hc
  have hl9 := kwl_le i h9
  refine va_tb hx hcb (hks.2.2.1.1.1 i h9).2.2.2 hS (vp_in_nI hj (show kwl i < 2 ^ 31 by omega)) ?_ hd (k la p e s m args below meth c D ad cy A hc H locs ls cells slots hP hS hl ha hb)
  rw [nI_clamp (show j < 2 ^ 31 by omega)]
  exact congrArg Value.int (kwc_at i h9 j (by omega))
theorem zj_ldcS {idx i : Nat} (hn : pc + 2 = n) (hd : decode cc pc = .ok (.ldc idx, 2)) (hy : y.cls = "RepairAuctionModel") (h9 : i < 23) (hw : zKi.getD i 0 = idx) (k : zJG G y cc nL ret R Q X a b n l (.ref (300 + i) :: st) M) : zJG G y cc nL ret R Q X a b pc l st M := by
  subst hn
  subst hw
  intro la p e s m args below meth c D ad cy A hc H locs ls cells slots hP hS hl ha hb
  obtain ⟨hf, hx, hcb, hr, hml, hown, hts, hlk, het, hA, hi, hai, hK, hks⟩ := id hc
  exact va_ldcS (own := y.cls) hx hcb hown (by rw [hy]; exact hks.2.2.2.2.2.1 i h9) hd (k la p e s m args below meth c D ad cy A hc H locs ls cells slots hP hS hl ha hb)
theorem zj_ldcwS {idx i : Nat} (hn : pc + 3 = n) (hd : decode cc pc = .ok (.ldc_w idx, 3)) (hy : y.cls = "RepairAuctionModel") (h9 : i < 23) (hw : zKi.getD i 0 = idx) (k : zJG G y cc nL ret R Q X a b n l (.ref (300 + i) :: st) M) : zJG G y cc nL ret R Q X a b pc l st M := by
  subst hn
  subst hw
  intro la p e s m args below meth c D ad cy A hc H locs ls cells slots hP hS hl ha hb
  obtain ⟨hf, hx, hcb, hr, hml, hown, hts, hlk, het, hA, hi, hai, hK, hks⟩ := id hc
  have hZ : vk_R y.cls (zKi.getD i 0) (zKt.getD i "") (ad (300 + i)) s := by rw [hy]; exact hks.2.2.2.2.2.1 i h9
  intro T hT X9
  obtain ⟨t, a1, b1⟩ := (k la p e s m args below meth c D ad cy A hc H locs ls cells slots hP hS hl ha hb) T hT X9
  exact ⟨t, zldcwS X9 hx hown hZ.1 hZ.2 (g := F0 m pc ls (st.map (zC ad))) rfl (by rw [hcb]; exact hd) t a1, b1⟩
theorem zj_i2cN {x : Nat} (hn : pc + 1 = n) (hd : decode cc pc = .ok (.i2c, 1)) (h9 : x < 65536) (k : zJG G y cc nL ret R Q X a b n l (.int (nI x) :: st) M) : zJG G y cc nL ret R Q X a b pc l (.int (nI x) :: st) M := by
  subst hn
  intro la p e s m args below meth c D ad cy A hc H locs ls cells slots hP hS hl ha hb
  obtain ⟨hf, hx, hcb, hr, hml, hown, hts, hlk, het, hA, hi, hai, hK, hks⟩ := id hc
  refine lv_i2c hx hcb hd ?_ (k la p e s m args below meth c D ad cy A hc H locs ls cells slots hP hS hl ha hb)
  apply Int32.toBitVec_inj.mp
  apply BitVec.eq_of_toNat_eq
  show ((nI x).toBitVec % 65536#32).toNat = _
  rw [BitVec.toNat_umod]
  show (BitVec.ofNat 32 x).toNat % 65536 = (BitVec.ofNat 32 x).toNat
  rw [BitVec.toNat_ofNat]
  omega
theorem zj_callVK {y' : MethodName} {cc' : ByteArray} {nL' idx i a' b' : Nat} {ret' : Option FieldType} {R' : Room} {vs : List Value} (hn : pc + 3 = n) (hd : decode cc pc = .ok (.invokevirtual idx, 3)) (S : zSv y.cls idx y' cc' nL' ret' vs.length) (hR : R'.frames + 1 ≤ R.frames ∧ 8 + (nL' + 11) + R'.locals ≤ R.locals) (hk : i < 23) (hcl : "java/lang/String" = y'.cls) (hst : zSum st ≤ 8) (ha9 : R'.cells + a' ≤ a) (hb9 : R'.slots + b' ≤ b) (hw : zSum vs + 1 ≤ nL')
    (hJ : zJ y' cc' nL' ret' R' (fun r M' => zJG G y cc nL ret R Q X a' b' n l (zPush r st) M') X R'.cells R'.slots 0 (zEnt nL' (.ref (300 + i) :: vs)) [] M) (hG : zGe G := by exact zG0_e) : zJG G y cc nL ret R Q X a b pc l (vs.reverse ++ .ref (300 + i) :: st) M := by
  subst hn
  intro la p e s m args below meth c D ad cy A hc H locs ls cells slots hP hS hl ha hb
  obtain ⟨hf, hx, hcb, hr, hml, hown, hts, hlk, het, hA, hi, hai, hK, hks⟩ := id hc
  obtain ⟨S1, S2, S3, S4, S5, S6, S7⟩ := S
  have hM := zT_met S7 (by show (1 + zSum vs) ≤ nL'; omega) hJ la hf D ad cy A hi hai
  obtain ⟨cell, g1, g2, g3⟩ := vk_recv hks.2.2.1.1 hk hS
  rw [hcl] at g3
  have ok : ∀ w ∈ zTB, w.before args s = true := hts
  have cw : CallW R s args y.cls y'.cls idx y' cc' nL' ret' (zWs y' cc' nL' ret') R' R'.cells R'.slots vs.length :=
    ⟨callB_of vs.length ok (zWs_good S5) rfl rfl rfl (ok _ S4) (ok _ S1) S6 hR, ok _ S2, ok _ S3⟩
  refine zvx hG (a' := a') (b' := b') (a9 := (Value.ref (ad (300 + i)) :: vs.map (zC ad)).toArray) (vx_runV ⟨hx, hcb, hml, hown, ok⟩ hM cw ⟨zPc_blind, ⟨cell, g1, g2, g3⟩, fun U hU hW => zPc_at (vs := .ref (300 + i) :: vs) hP hS hA hK hks hU hW⟩ rfl (by simp) hl.1 ?_ (lv_room (by rw [zSum_map]; exact hst)) hd ⟨by omega, by omega⟩) hc hS hl (by omega) (by omega)
  show List.map (zC ad) (vs.reverse ++ .ref (300 + i) :: st) = (vs.map (zC ad)).reverse ++ .ref (ad (300 + i)) :: st.map (zC ad)
  rw [List.map_append, List.map_reverse]
  rfl
theorem zj_callVK0 {y' : MethodName} {cc' : ByteArray} {nL' idx i a' b' : Nat} {ret' : Option FieldType} {R' : Room} (hn : pc + 3 = n) (hd : decode cc pc = .ok (.invokevirtual idx, 3)) (S : zSv y.cls idx y' cc' nL' ret' 0) (hR : R'.frames + 1 ≤ R.frames ∧ 8 + (nL' + 11) + R'.locals ≤ R.locals) (hk : i < 23) (hcl : "java/lang/String" = y'.cls) (hst : zSum st ≤ 8) (ha9 : R'.cells + a' ≤ a) (hb9 : R'.slots + b' ≤ b) (hw : zSum [] + 1 ≤ nL')
    (hJ : zJ y' cc' nL' ret' R' (fun r M' => zJG G y cc nL ret R Q X a' b' n l (zPush r st) M') X R'.cells R'.slots 0 (zEnt nL' [.ref (300 + i)]) [] M) (hG : zGe G := by exact zG0_e) : zJG G y cc nL ret R Q X a b pc l (.ref (300 + i) :: st) M := zj_callVK (vs := []) hn hd S hR hk hcl hst ha9 hb9 hw hJ hG
theorem zj_callVK1 {y' : MethodName} {cc' : ByteArray} {nL' idx i a' b' : Nat} {ret' : Option FieldType} {R' : Room} {v1 : Value} (hn : pc + 3 = n) (hd : decode cc pc = .ok (.invokevirtual idx, 3)) (S : zSv y.cls idx y' cc' nL' ret' 1) (hR : R'.frames + 1 ≤ R.frames ∧ 8 + (nL' + 11) + R'.locals ≤ R.locals) (hk : i < 23) (hcl : "java/lang/String" = y'.cls) (hst : zSum st ≤ 8) (ha9 : R'.cells + a' ≤ a) (hb9 : R'.slots + b' ≤ b) (hw : zSum [v1] + 1 ≤ nL')
    (hJ : zJ y' cc' nL' ret' R' (fun r M' => zJG G y cc nL ret R Q X a' b' n l (zPush r st) M') X R'.cells R'.slots 0 (zEnt nL' [.ref (300 + i), v1]) [] M) (hG : zGe G := by exact zG0_e) : zJG G y cc nL ret R Q X a b pc l (v1 :: .ref (300 + i) :: st) M := zj_callVK (vs := [v1]) hn hd S hR hk hcl hst ha9 hb9 hw hJ hG
end Z72
theorem jJ0_coder {i : Nat} {Q : Option Value → zM → Prop} {X : String → zM → Prop} {M : zM} (hi : i < 23) (h : Q (some (.int (nI 0))) M) : zJ yJ0_coder_7d493 cJ0_coder_7d493 1 (some .byte) rJ0_coder_7d493 Q X rJ0_coder_7d493.cells rJ0_coder_7d493.slots 0 (zEnt 1 [.ref (300 + i)]) [] M := by
  show zJ yJ0_coder_7d493 cJ0_coder_7d493 1 (some .byte) rJ0_coder_7d493 Q X 0 0 0 [some (.ref (300 + i))] [] M
  refine zj_getcs (n := 3) rfl dJ0_coder_7d493_0 zs_J0_38 ?_
  refine zj_ifN_eq (n := 6) (tgt := 13) rfl dJ0_coder_7d493_3 (by decide) (by decide) (fun h => absurd h (by decide)) (fun _ => ?_)
  refine zj_aload0 (n := 7) rfl dJ0_coder_7d493_6 ?_
  refine zj_getcoder (n := 10) rfl dJ0_coder_7d493_7 hi zs_J0_15 ?_
  refine zj_goto (tgt := 14) dJ0_coder_7d493_10 (by decide) ?_
  exact zj_ireturn dJ0_coder_7d493_14 rfl rfl h
theorem jJ0_isLatin1 {i : Nat} {Q : Option Value → zM → Prop} {X : String → zM → Prop} {M : zM} (hi : i < 23) (h : Q (some (.int (nI 1))) M) : zJ yJ0_isLatin1_aae02 cJ0_isLatin1_aae02 1 (some .boolean) rJ0_isLatin1_aae02 Q X rJ0_isLatin1_aae02.cells rJ0_isLatin1_aae02.slots 0 (zEnt 1 [.ref (300 + i)]) [] M := by
  show zJ yJ0_isLatin1_aae02 cJ0_isLatin1_aae02 1 (some .boolean) rJ0_isLatin1_aae02 Q X 0 0 0 [some (.ref (300 + i))] [] M
  refine zj_getcs (n := 3) rfl dJ0_isLatin1_aae02_0 zs_J0_38 ?_
  refine zj_ifN_eq (n := 6) (tgt := 17) rfl dJ0_isLatin1_aae02_3 (by decide) (by decide) (fun h => absurd h (by decide)) (fun _ => ?_)
  refine zj_aload0 (n := 7) rfl dJ0_isLatin1_aae02_6 ?_
  refine zj_getcoder (n := 10) rfl dJ0_isLatin1_aae02_7 hi zs_J0_15 ?_
  refine zj_ifN_ne (n := 13) (tgt := 17) rfl dJ0_isLatin1_aae02_10 (by decide) (by decide) (fun h => absurd h (by decide)) (fun _ => ?_)
  refine zj_iconstN_1 (n := 14) rfl dJ0_isLatin1_aae02_13 ?_
  refine zj_goto (tgt := 18) dJ0_isLatin1_aae02_14 (by decide) ?_
  exact zj_ireturn dJ0_isLatin1_aae02_18 rfl rfl h
theorem jJ0_length {i : Nat} {Q : Option Value → zM → Prop} {X : String → zM → Prop} {M : zM} (hi : i < 23) (h : Q (some (.int (nI (kwl i)))) M) : zJ yJ0_length_8abf5 cJ0_length_8abf5 1 (some .int) rJ0_length_8abf5 Q X rJ0_length_8abf5.cells rJ0_length_8abf5.slots 0 (zEnt 1 [.ref (300 + i)]) [] M := by
  show zJ yJ0_length_8abf5 cJ0_length_8abf5 1 (some .int) rJ0_length_8abf5 Q X 0 0 0 [some (.ref (300 + i))] [] M
  have hl9 := kwl_le i hi
  refine zj_aload0 (n := 1) rfl dJ0_length_8abf5_0 ?_
  refine zj_getval (n := 4) rfl dJ0_length_8abf5_1 hi zs_J0_9 ?_
  refine zj_lenstr (n := 5) rfl dJ0_length_8abf5_4 hi ?_
  refine zj_aload0 (n := 6) rfl dJ0_length_8abf5_5 ?_
  refine zj_callVK0 (n := 9) (a' := 0) (b' := 0) rfl dJ0_length_8abf5_6 zm_J0_335 (by decide) hi rfl (Nat.le_of_ble_eq_true rfl) (Nat.le_of_ble_eq_true rfl) (Nat.le_of_ble_eq_true rfl) (Nat.le_of_ble_eq_true rfl) (jJ0_coder hi ?_)
  refine zj_ishrN (n := 10) rfl dJ0_length_8abf5_9 (by omega) (by decide) ?_
  rw [Nat.pow_zero, Nat.div_one]
  exact zj_ireturn dJ0_length_8abf5_10 rfl rfl h
theorem jJ3_checkN {j n : Nat} {Q : Option Value → zM → Prop} {X : String → zM → Prop} {M : zM} (hj : j < n) (hn : n < 2 ^ 31) (h : Q (some (.int (nI j))) M) : zJ yJ3_checkIndex_8e157 cJ3_checkIndex_8e157 3 (some .int) rJ3_checkIndex_8e157 Q X rJ3_checkIndex_8e157.cells rJ3_checkIndex_8e157.slots 0 (zEnt 3 [.int (nI j), .int (nI n), .null]) [] M := by
  show zJ yJ3_checkIndex_8e157 cJ3_checkIndex_8e157 3 (some .int) rJ3_checkIndex_8e157 Q X 0 0 0 [some (.int (nI j)), some (.int (nI n)), some (.null)] [] M
  refine zj_iload0 (n := 1) rfl dJ3_checkIndex_8e157_0 ?_
  refine zj_ifN_lt (n := 4) (tgt := 9) rfl dJ3_checkIndex_8e157_1 (by decide) (by omega) ?_
  refine zj_iload0 (n := 5) rfl dJ3_checkIndex_8e157_4 ?_
  refine zj_iload1 (n := 6) rfl dJ3_checkIndex_8e157_5 ?_
  refine zj_icmpN_lt (n := 9) (tgt := 16) rfl dJ3_checkIndex_8e157_6 (by decide) (by omega) (by omega) (fun _ => ?_) (fun h => absurd hj (by omega))
  refine zj_iload0 (n := 17) rfl dJ3_checkIndex_8e157_16 ?_
  exact zj_ireturn dJ3_checkIndex_8e157_17 rfl rfl h
theorem jJ3_checkR {j n : Nat} {Q : Option Value → zM → Prop} {X : String → zM → Prop} {M : zM} (hj : j < n) (hn : n < 2 ^ 31) (h : Q (some (.int (nI j))) M) : zJ yJ3_checkIndex_8e157 cJ3_checkIndex_8e157 3 (some .int) rJ3_checkIndex_8e157 Q X rJ3_checkIndex_8e157.cells rJ3_checkIndex_8e157.slots 0 (zEnt 3 [.int (nI j), .int (nI n), .ref 700]) [] M := by
  show zJ yJ3_checkIndex_8e157 cJ3_checkIndex_8e157 3 (some .int) rJ3_checkIndex_8e157 Q X 0 0 0 [some (.int (nI j)), some (.int (nI n)), some (.ref 700)] [] M
  refine zj_iload0 (n := 1) rfl dJ3_checkIndex_8e157_0 ?_
  refine zj_ifN_lt (n := 4) (tgt := 9) rfl dJ3_checkIndex_8e157_1 (by decide) (by omega) ?_
  refine zj_iload0 (n := 5) rfl dJ3_checkIndex_8e157_4 ?_
  refine zj_iload1 (n := 6) rfl dJ3_checkIndex_8e157_5 ?_
  refine zj_icmpN_lt (n := 9) (tgt := 16) rfl dJ3_checkIndex_8e157_6 (by decide) (by omega) (by omega) (fun _ => ?_) (fun h => absurd hj (by omega))
  refine zj_iload0 (n := 17) rfl dJ3_checkIndex_8e157_16 ?_
  exact zj_ireturn dJ3_checkIndex_8e157_17 rfl rfl h
theorem jJ0_checkIndex {j n : Nat} {Q : Option Value → zM → Prop} {X : String → zM → Prop} {M : zM} (hj : j < n) (hn : n < 2 ^ 31) (h : Q none M) : zJ yJ0_checkIndex_df160 cJ0_checkIndex_df160 2 none rJ0_checkIndex_df160 Q X rJ0_checkIndex_df160.cells rJ0_checkIndex_df160.slots 0 (zEnt 2 [.int (nI j), .int (nI n)]) [] M := by
  show zJ yJ0_checkIndex_df160 cJ0_checkIndex_df160 2 none rJ0_checkIndex_df160 Q X 0 0 0 [some (.int (nI j)), some (.int (nI n))] [] M
  refine zj_iload0 (n := 1) rfl dJ0_checkIndex_df160_0 ?_
  refine zj_iload1 (n := 2) rfl dJ0_checkIndex_df160_1 ?_
  refine zj_getsf (n := 5) rfl dJ0_checkIndex_df160_2 zs_J0_1053 ?_ ?_
  · refine zj_callS3 (n := 8) (a' := 0) (b' := 0) rfl dJ0_checkIndex_df160_5 zm_J0_1059 (by decide) (Nat.le_of_ble_eq_true rfl) (Nat.le_of_ble_eq_true rfl) (Nat.le_of_ble_eq_true rfl) (Nat.le_of_ble_eq_true rfl) (jJ3_checkN hj hn ?_)
    refine zj_pop (n := 9) rfl dJ0_checkIndex_df160_8 ?_
    exact zj_return dJ0_checkIndex_df160_9 rfl h
  · refine zj_callS3 (n := 8) (a' := 0) (b' := 0) rfl dJ0_checkIndex_df160_5 zm_J0_1059 (by decide) (Nat.le_of_ble_eq_true rfl) (Nat.le_of_ble_eq_true rfl) (Nat.le_of_ble_eq_true rfl) (Nat.le_of_ble_eq_true rfl) (jJ3_checkR hj hn ?_)
    refine zj_pop (n := 9) rfl dJ0_checkIndex_df160_8 ?_
    exact zj_return dJ0_checkIndex_df160_9 rfl h
theorem zch_nar {x : Nat} (h : x < 128) : narrow .char (.int (nI x)) = .int (nI x) := (by decide : ∀ x, x < 128 → narrow .char (.int (nI x)) = .int (nI x)) x h
theorem jJ1_charAt {i j : Nat} {Q : Option Value → zM → Prop} {X : String → zM → Prop} {M : zM} (hi : i < 23) (hj : j < kwl i) (h : Q (some (.int (nI (kwc i j)))) M) : zJ yJ1_charAt_3b067 cJ1_charAt_3b067 2 (some .char) rJ1_charAt_3b067 Q X rJ1_charAt_3b067.cells rJ1_charAt_3b067.slots 0 (zEnt 2 [.ref (600 + i), .int (nI j)]) [] M := by
  show zJ yJ1_charAt_3b067 cJ1_charAt_3b067 2 (some .char) rJ1_charAt_3b067 Q X 0 0 0 [some (.ref (600 + i)), some (.int (nI j))] [] M
  have hl9 := kwl_le i hi
  have hc9 := kwc_lt i hi j (by omega)
  refine zj_iload1 (n := 1) rfl dJ1_charAt_3b067_0 ?_
  refine zj_aload0 (n := 2) rfl dJ1_charAt_3b067_1 ?_
  refine zj_lenstr (n := 3) rfl dJ1_charAt_3b067_2 hi ?_
  refine zj_callS2 (n := 6) (a' := 0) (b' := 0) rfl dJ1_charAt_3b067_3 zm_J1_9 (by decide) (Nat.le_of_ble_eq_true rfl) (Nat.le_of_ble_eq_true rfl) (Nat.le_of_ble_eq_true rfl) (Nat.le_of_ble_eq_true rfl) (jJ0_checkIndex hj (by omega) ?_)
  refine zj_aload0 (n := 7) rfl dJ1_charAt_3b067_6 ?_
  refine zj_iload1 (n := 8) rfl dJ1_charAt_3b067_7 ?_
  refine zj_loadstr (n := 9) rfl dJ1_charAt_3b067_8 hi hj ?_
  refine zj_sipushN (v := 255) (n := 12) rfl dJ1_charAt_3b067_9 (by decide) ?_
  refine zj_iand (n := 13) rfl dJ1_charAt_3b067_12 ?_
  rw [show nI (kwc i j) &&& nI 255 = nI (kwc i j) from by have := pk_andN (n := kwc i j) (by omega) (m := 255) 8 (by decide); rw [Nat.mod_eq_of_lt (by omega)] at this; exact this]
  refine zj_i2cN (n := 14) rfl dJ1_charAt_3b067_13 (by omega) ?_
  exact zj_ireturn dJ1_charAt_3b067_14 rfl (zch_nar (by omega)) h
theorem jJ0_charAt {i j : Nat} {Q : Option Value → zM → Prop} {X : String → zM → Prop} {M : zM} (hi : i < 23) (hj : j < kwl i) (h : Q (some (.int (nI (kwc i j)))) M) : zJ yJ0_charAt_5068e cJ0_charAt_5068e 2 (some .char) rJ0_charAt_5068e Q X rJ0_charAt_5068e.cells rJ0_charAt_5068e.slots 0 (zEnt 2 [.ref (300 + i), .int (nI j)]) [] M := by
  show zJ yJ0_charAt_5068e cJ0_charAt_5068e 2 (some .char) rJ0_charAt_5068e Q X 0 0 0 [some (.ref (300 + i)), some (.int (nI j))] [] M
  have hl9 := kwl_le i hi
  have hc9 := kwc_lt i hi j (by omega)
  refine zj_aload0 (n := 1) rfl dJ0_charAt_5068e_0 ?_
  refine zj_callVK0 (n := 4) (a' := 0) (b' := 0) rfl dJ0_charAt_5068e_1 zm_J0_492 (by decide) hi rfl (Nat.le_of_ble_eq_true rfl) (Nat.le_of_ble_eq_true rfl) (Nat.le_of_ble_eq_true rfl) (Nat.le_of_ble_eq_true rfl) (jJ0_isLatin1 hi ?_)
  refine zj_ifN_eq (n := 7) (tgt := 16) rfl dJ0_charAt_5068e_4 (by decide) (by decide) (fun h => absurd h (by decide)) (fun _ => ?_)
  refine zj_aload0 (n := 8) rfl dJ0_charAt_5068e_7 ?_
  refine zj_getval (n := 11) rfl dJ0_charAt_5068e_8 hi zs_J0_9 ?_
  refine zj_iload1 (n := 12) rfl dJ0_charAt_5068e_11 ?_
  refine zj_callS2 (n := 15) (a' := 0) (b' := 0) rfl dJ0_charAt_5068e_12 zm_J0_495 (by decide) (Nat.le_of_ble_eq_true rfl) (Nat.le_of_ble_eq_true rfl) (Nat.le_of_ble_eq_true rfl) (Nat.le_of_ble_eq_true rfl) (jJ1_charAt hi hj ?_)
  exact zj_ireturn dJ0_charAt_5068e_15 rfl (zch_nar (by omega)) h
