/-- the words that stay as long as the tables do -/
def zTB : List Cond := lw_tbl.filter goodWord
/-- words that stay too, by laws of their own -/
def zNk : Cond → Bool
  | .fieldLinkNest .. => true
  | .methodLinkNest .. => true
  | .declares .. => true
  | .castable .. => true
  | _ => false
def zNl : List Cond := lw_tbl.filter zNk
theorem zNk_on {w : Cond} (h : zNk w = true) : w.onTables = true := by
  cases w <;> first | rfl | cases h
theorem zNk_warm {w : Cond} {s U : State} (hW : s.WarmedH U.vm) (h : zNk w = true) (hw : va_Nw w s) : va_Nw w U := by
  cases w <;> first | exact va_Nw.warmF hW hw | exact va_Nw.warmM hW hw | exact va_Nw.warmD hW hw | exact va_Nw.warmC hW hw | cases h
/-! THE MEMORY OF THIS CLAIM: 133 cells at addresses that are apart; ints, longs, doubles by cell and place; which row of ints the reference looks at now.
0..98: eleven rings of nine cells (a ring, then four tables, each before its row); 99..117 the class's other cells; 118..130 the reference; 131, 132 the law's own rows. -/
abbrev zM : Type := (Nat → Nat → Int32) × (Nat → Nat → Int64) × (Nat → Nat → UInt64) × Nat
def zU {α : Type} (f : Nat → Nat → α) (k j : Nat) (v : α) : Nat → Nat → α := fun a => if a = k then (fun b => if b = j then v else f a b) else f a
def zTyL : List Nat := [8, 1, 21, 1, 21, 4, 0, 3, 22, 6, 20, 2, 0, 3, 22, 6, 20, 7, 24, 9, 20, 20, 22, 20, 20, 20, 20, 20, 20, 20, 21, 21, 22, 23]
def zTy (k : Nat) : Nat := if k < 99 then (if k % 9 = 0 then 5 else if k % 9 % 2 = 1 then 6 else 20) else zTyL.getD (k - 99) 99
def zLenL : List Nat := [0, 0, 1400, 0, 200, 0, 0, 0, 11, 0, 40, 0, 0, 0, 11, 0, 40, 0, 8, 0, 698, 698, 11, 10, 10, 10, 10, 10, 698, 5584, 1400, 300, 1, 1]
def zLen (k : Nat) : Nat := if k < 99 then (if k % 9 = 2 then 128 else if k % 9 = 4 then 36 else if k % 9 = 6 then 210 else 200) else zLenL.getD (k - 99) 0
/-- a field's kind: 0 int, 1 long, 2 reference -/
def zFkL : List (List Nat) := [[2, 2, 0, 0, 0, 0], [2, 0], [2, 2, 0, 1], [2], [2, 2, 0, 0, 0, 0, 0, 0], [2, 2, 2, 2, 0, 0, 0, 0, 0, 0], [0, 2, 0], [2, 0, 0], [2, 2, 2, 2, 2, 2, 2], [0, 2, 2, 2, 0, 2, 2, 2, 2, 2, 2, 0, 0, 0, 1, 0, 2, 0, 0, 0, 0, 0, 0, 0, 0, 2, 2, 0, 2, 0]]
def zFk (ci j : Nat) : Nat := (zFkL.getD ci []).getD j 9
def zNf (ci : Nat) : Nat := (zFkL.getD ci []).length
/-- which cell a reference field of a cell k holds -/
def zLay (ci j k w : Nat) : Nat :=
  if ci = 5 then k + 1 + 2 * j else if ci = 6 then k + 1 else if ci = 1 then k + 1 else if ci = 3 then k + 1 else if ci = 0 then (if j = 0 then k + 1 else k + 3)
  else if ci = 2 then (if j = 0 then 18 else 111) else if ci = 4 then (if j = 0 then 100 else 9) else if ci = 7 then 117
  else if ci = 8 then [100, 102, 104, 0, 105, 110, 116].getD j 0
  else (if j = 3 then w else [0, 119, 120, 0, 0, 121, 122, 123, 124, 125, 126, 0, 0, 0, 0, 0, 129, 0, 0, 0, 0, 0, 0, 0, 0, 127, 128, 0, 130, 0].getD j 0)
def zC (ad : Nat → Nat) (v : Value) : Value := match v with
  | .ref k => .ref (ad k)
  | v => v
def zFld (ad : Nat → Nat) (M : zM) (ci k j : Nat) : Value := if zFk ci j = 0 then .int (M.1 k j) else if zFk ci j = 1 then .long (M.2.1 k j) else .ref (ad (zLay ci j k M.2.2.2))
def zE (ad : Nat → Nat) (cy : Nat → ClassId) (M : zM) (k : Nat) : va_E :=
  if zTy k = 20 then .inl (cy 0, zLen k, .inl (M.1 k)) else if zTy k = 21 then .inl (cy 1, zLen k, .inl (M.1 k)) else if zTy k = 22 then .inl (cy 2, zLen k, .inr (.inl (M.2.1 k)))
  else if zTy k = 23 then .inl (cy 3, zLen k, .inr (.inr (.inr (.inl (M.2.2.1 k))))) else if zTy k = 24 then .inl (cy 4, 8, .inr (.inr (.inr (.inr (fun i => some (ad (27 + 9 * i)))))))
  else .inr (zTy k, (List.range (zNf (zTy k))).map (fun j => zFld ad M (zTy k) k j))
def zWl (ad : Nat → Nat) (cy : Nat → ClassId) (M : zM) : va_W := (List.range 133).map (fun k => (ad k, zE ad cy M k))
def zTys (cy : Nat → ClassId) : List (ClassId × FieldType) := [(cy 0, .int), (cy 1, .byte), (cy 2, .long), (cy 3, .double), (cy 4, .object "RepairAuction$Ring")]
theorem zWl_get {ad : Nat → Nat} {cy : Nat → ClassId} {M : zM} {k : Nat} (hk : k < 133) : (zWl ad cy M)[k]? = some (ad k, zE ad cy M k) := by
  unfold zWl
  rw [List.getElem?_map, List.getElem?_range hk]
  rfl
theorem zWl_get' {ad : Nat → Nat} {cy : Nat → ClassId} {M : zM} {k : Nat} {q : Nat × va_E} (h : (zWl ad cy M)[k]? = some q) : k < 133 ∧ q = (ad k, zE ad cy M k) := by
  have hk : k < 133 := by
    have := (List.getElem?_eq_some_iff.mp h).1
    simpa [zWl] using this
  rw [zWl_get hk] at h
  exact ⟨hk, (Option.some.inj h).symm⟩
theorem zWl_put {ad : Nat → Nat} {cy : Nat → ClassId} {M M' : zM} {k : Nat} {e : va_E} (he : zE ad cy M' k = e) (ho : ∀ j, j ≠ k → zE ad cy M' j = zE ad cy M j) : (zWl ad cy M).set k (ad k, e) = zWl ad cy M' := by
  apply List.ext_getElem?
  intro i
  rw [List.getElem?_set]
  by_cases hi : k = i
  · subst hi
    rw [if_pos rfl]
    by_cases hk : k < 133
    · rw [if_pos (by simpa [zWl] using hk), zWl_get hk, he]
    · rw [if_neg (by simpa [zWl] using hk)]
      simp [zWl, hk]
  · rw [if_neg hi]
    unfold zWl
    rw [List.getElem?_map, List.getElem?_map]
    by_cases h2 : i < 133
    · rw [List.getElem?_range h2]
      simp only [Option.map_some]
      rw [ho i (fun q => hi q.symm)]
    · have : (List.range 133)[i]? = none := by simp; omega
      rw [this]
      rfl
theorem zU_at {α : Type} {f : Nat → Nat → α} {k j : Nat} {v : α} : zU f k j v k = fun b => if b = j then v else f k b := by
  unfold zU
  rw [if_pos rfl]
theorem zU_off {α : Type} {f : Nat → Nat → α} {k j a : Nat} {v : α} (h : a ≠ k) : zU f k j v a = f a := by
  unfold zU
  rw [if_neg h]
theorem zC_cat (ad : Nat → Nat) (v : Value) : (zC ad v).category = v.category := by cases v <;> rfl
/-! locals -/
def zLR (ad : Nat → Nat) (ls : Array Slot) (nL : Nat) (l : List (Option Value)) : Prop := ls.size = nL ∧ lv_wf ls ∧ ∀ (i : Nat) (v : Value), l[i]? = some (some v) → ls[i]? = some (.val (zC ad v))
def zPr (ad : Nat → Nat) : Nat → List (Option Value) → List (Nat × Value)
  | _, [] => []
  | i, none :: r => zPr ad (i + 1) r
  | i, some v :: r => (i, zC ad v) :: zPr ad (i + 1) r
theorem zPr_mem {ad : Nat → Nat} {l : List (Option Value)} : ∀ {n : Nat} {q : Nat × Value}, q ∈ zPr ad n l ↔ ∃ i v, l[i]? = some (some v) ∧ q = (n + i, zC ad v) := by
  induction l with
  | nil => intro n q; simp [zPr]
  | cons o r ih =>
    intro n q
    cases o with
    | none =>
      rw [zPr, ih]
      constructor
      · rintro ⟨i, v, h1, h2⟩
        exact ⟨i + 1, v, by simpa using h1, by rw [h2]; congr 1; omega⟩
      · rintro ⟨i, v, h1, h2⟩
        cases i with
        | zero => simp at h1
        | succ i => exact ⟨i, v, by simpa using h1, by rw [h2]; congr 1; omega⟩
    | some w =>
      rw [zPr, List.mem_cons, ih]
      constructor
      · rintro (h | ⟨i, v, h1, h2⟩)
        · exact ⟨0, w, by simp, by rw [h]; rfl⟩
        · exact ⟨i + 1, v, by simpa using h1, by rw [h2]; congr 1; omega⟩
      · rintro ⟨i, v, h1, h2⟩
        cases i with
        | zero => simp at h1; subst h1; exact Or.inl (by rw [h2]; rfl)
        | succ i => exact Or.inr ⟨i, v, by simpa using h1, by rw [h2]; congr 1; omega⟩
theorem zLR_has {ad : Nat → Nat} {ls : Array Slot} {nL : Nat} {l : List (Option Value)} (h : zLR ad ls nL l) : lv_has ls nL (zPr ad 0 l) := by
  refine ⟨h.1, h.2.1, fun q hq => ?_⟩
  obtain ⟨i, v, h1, rfl⟩ := zPr_mem.mp hq
  simpa using h.2.2 i v h1
theorem zLR_at {ad : Nat → Nat} {ls : Array Slot} {nL : Nat} {l : List (Option Value)} (h : zLR ad ls nL l) {i : Nat} {v : Value} (hi : l[i]? = some (some v)) : ls[i]? = some (.val (zC ad v)) := h.2.2 i v hi
/-- a store of one slot: what the new list may say -/
theorem zLR_st1 {ad : Nat → Nat} {ls' : Array Slot} {nL i : Nat} {l l' : List (Option Value)} {v : Value} (h : lv_has ls' nL ((i, zC ad v) :: (zPr ad 0 l).filter (fun q => !(q.1 == i) && !(q.1 + 1 == i && q.2.category == 2))))
    (hl : ∀ (j : Nat) (w : Value), l'[j]? = some (some w) → (j = i ∧ w = v) ∨ (j ≠ i ∧ l[j]? = some (some w) ∧ ¬ (j + 1 = i ∧ w.category = 2))) : zLR ad ls' nL l' := by
  refine ⟨h.1, h.2.1, fun j w hj => ?_⟩
  rcases hl j w hj with ⟨rfl, rfl⟩ | ⟨h1, h2, h3⟩
  · exact h.2.2 (j, zC ad w) List.mem_cons_self
  · refine h.2.2 (j, zC ad w) (List.mem_cons_of_mem _ (List.mem_filter.mpr ⟨zPr_mem.mpr ⟨j, w, h2, by simp⟩, ?_⟩))
    simp only [zC_cat]
    simp [h1]
    by_cases h4 : j + 1 = i
    · exact Or.inr (fun h5 => h3 ⟨h4, h5⟩)
    · exact Or.inl h4
theorem zLR_st2 {ad : Nat → Nat} {ls' : Array Slot} {nL i : Nat} {l l' : List (Option Value)} {v : Value} (h : lv_has ls' nL ((i, zC ad v) :: (zPr ad 0 l).filter (fun q => !(q.1 == i) && (!(q.1 == i + 1) && !(q.1 + 1 == i && q.2.category == 2)))))
    (hl : ∀ (j : Nat) (w : Value), l'[j]? = some (some w) → (j = i ∧ w = v) ∨ (j ≠ i ∧ j ≠ i + 1 ∧ l[j]? = some (some w) ∧ ¬ (j + 1 = i ∧ w.category = 2))) : zLR ad ls' nL l' := by
  refine ⟨h.1, h.2.1, fun j w hj => ?_⟩
  rcases hl j w hj with ⟨rfl, rfl⟩ | ⟨h1, h1', h2, h3⟩
  · exact h.2.2 (j, zC ad w) List.mem_cons_self
  · refine h.2.2 (j, zC ad w) (List.mem_cons_of_mem _ (List.mem_filter.mpr ⟨zPr_mem.mpr ⟨j, w, h2, by simp⟩, ?_⟩))
    simp only [zC_cat]
    simp [h1, h1']
    by_cases h4 : j + 1 = i
    · exact Or.inr (fun h5 => h3 ⟨h4, h5⟩)
    · exact Or.inl h4
/-- the locals with which a method begins -/
def zEnt : Nat → List Value → List (Option Value)
  | n, [] => List.replicate n none
  | n, .long x :: r => some (.long x) :: none :: zEnt (n - 2) r
  | n, .double x :: r => some (.double x) :: none :: zEnt (n - 2) r
  | n, v :: r => some v :: zEnt (n - 1) r
/-! what stays: the constants -/
def zKn : List String := ["RING", "BANDWIDTH", "CARRY", "RESERVE", "PRICE", "FIRST", "SECOND", "UNIFORM", "NODE", "AT", "ZONE", "RISK", "ROOM", "TENANT", "INCOME", "MOST", "GROUP", "OF", "KEY", "DATA", "PARITY", "SIZE", "VALUE"]
def zKt : List String := ["ring", "bandwidth", "carry", "reserve", "price", "first", "second", "uniform", "node", "at", "zone", "risk", "room", "tenant", "income", "most", "group", "of", "key", "data", "parity", "size", "value"]
def zKb : List (List Int32) := [[114, 105, 110, 103], [98, 97, 110, 100, 119, 105, 100, 116, 104], [99, 97, 114, 114, 121], [114, 101, 115, 101, 114, 118, 101], [112, 114, 105, 99, 101], [102, 105, 114, 115, 116], [115, 101, 99, 111, 110, 100], [117, 110, 105, 102, 111, 114, 109], [110, 111, 100, 101], [97, 116], [122, 111, 110, 101], [114, 105, 115, 107], [114, 111, 111, 109], [116, 101, 110, 97, 110, 116], [105, 110, 99, 111, 109, 101], [109, 111, 115, 116], [103, 114, 111, 117, 112], [111, 102], [107, 101, 121], [100, 97, 116, 97], [112, 97, 114, 105, 116, 121], [115, 105, 122, 101], [118, 97, 108, 117, 101]]
def zKl : List Nat := [4, 9, 5, 7, 5, 5, 6, 7, 4, 2, 4, 4, 4, 6, 6, 4, 5, 2, 3, 4, 6, 4, 5]
def zKi : List Nat := [270, 276, 278, 280, 282, 283, 285, 287, 289, 291, 293, 295, 297, 299, 301, 303, 305, 307, 309, 311, 313, 315, 316]
/-- the texts of the exceptions: place in the class's pool, text -/
def zXt : List (Nat × String) := [(64, "the input buffer would hold more than 1400 bytes"), (340, "the history is empty"), (345, "no such node, tenant, group, shard, round or byte"), (350, "a value is out of range"), (353, "the call does not fit the state")]
def zKs (ad : Nat → Nat) (A : Nat → Prop) (U : State) (H : Heap) : Prop :=
  (∀ i, i < 23 → va_Z "RepairAuction$Keyword" (zKn.getD i "") "LRepairAuction$Keyword;" (.ref (ad (200 + i))) A U H) ∧
  (∀ i, i < 23 → va_OF "RepairAuction$Keyword" "text" "Ljava/lang/String;" (.ref (ad (300 + i))) (ad (200 + i)) A U H) ∧
  (vk_S 23 zKl zKb (fun i => ad (300 + i)) (fun i => ad (600 + i)) A U H ∧ va_Z "java/lang/String" "COMPACT_STRINGS" "Z" (.int 1) A U H ∧ (va_Z "jdk/internal/util/Preconditions" "SIOOBE_FORMATTER" "Ljava/util/function/BiFunction;" .null A U H ∨ va_Z "jdk/internal/util/Preconditions" "SIOOBE_FORMATTER" "Ljava/util/function/BiFunction;" (.ref (ad 700)) A U H)) ∧
  va_Z "RepairAuction" "KEYWORDS" "[LRepairAuction$Keyword;" (.ref (ad 400)) A U H ∧ va_T (.object "RepairAuction$Keyword") (ad 400) 23 (fun i => .ref (ad (200 + i))) A U H ∧
  (∀ i, i < 23 → vk_R "RepairAuctionModel" (zKi.getD i 0) (zKt.getD i "") (ad (300 + i)) U) ∧
  (∀ i, i < 5 → vk_R "RepairAuction" (zXt.getD i (0, "")).1 (zXt.getD i (0, "")).2 (ad (500 + i)) U) ∧
  vx_Zq Bundle.tN "UNASSIGNED_STACK" Bundle.steD A U H ∧ vx_Zq Bundle.tN "SUPPRESSED_SENTINEL" Bundle.listD A U H ∧ ∀ w ∈ zNl, va_Nw w U
theorem zKs.nest {ad : Nat → Nat} {A : Nat → Prop} {U : State} {H : Heap} (h : zKs ad A U H) {w : Cond} (hw : w ∈ zNl) {args : Array Value} : w.before args U = true := va_Nw.use (zNk_on (List.mem_filter.mp hw).2) (h.2.2.2.2.2.2.2.2.2 w hw)
theorem zKs.kept {ad : Nat → Nat} {A : Nat → Prop} {U : State} {H H1 : Heap} (h : zKs ad A U H) (hq : ∀ a : Nat, a < H.size → ¬ A a → H1[a]? = H[a]?) : zKs ad A U H1 := by
  obtain ⟨h1, h2, ⟨h3, h31, h32⟩, h4, h5, h6, h7, h8, h9, h10⟩ := h
  exact ⟨fun i hi => (h1 i hi).kept hq, fun i hi => (h2 i hi).kept hq, ⟨h3.kept hq, h31.kept hq, h32.elim (fun h => Or.inl (h.kept hq)) (fun h => Or.inr (h.kept hq))⟩, h4.kept hq, h5.kept hq, h6, h7, h8.kept hq, h9.kept hq, h10⟩
theorem zKs.warm {ad : Nat → Nat} {A : Nat → Prop} {s U : State} {H : Heap} (hW : s.WarmedH U.vm) (h : zKs ad A s H) : zKs ad A U H := by
  obtain ⟨h1, h2, ⟨h3, h31, h32⟩, h4, h5, h6, h7, h8, h9, h10⟩ := h
  have hv := hW.alike
  exact ⟨fun i hi => (h1 i hi).moved hv, fun i hi => (h2 i hi).moved hv, ⟨h3.moved hv, h31.moved hv, h32.elim (fun h => Or.inl (h.moved hv)) (fun h => Or.inr (h.moved hv))⟩, h4.moved hv, h5.moved hv, fun i hi => (h6 i hi).warm hW, fun i hi => (h7 i hi).warm hW, h8.moved hv, h9.moved hv, fun w hw => zNk_warm hW (List.mem_filter.mp hw).2 (h10 w hw)⟩
theorem zKs.blind {ad : Nat → Nat} {A : Nat → Prop} {U : State} {g : JFrame} {mk : MethodId} {a : Array Value} {H : Heap} (h : zKs ad A U H) : zKs ad A (U.calling g mk a) H := by
  obtain ⟨h1, h2, ⟨h3, h31, h32⟩, h4, h5, h6, h7, h8, h9, h10⟩ := h
  have hv : U.vm.Alike (U.calling g mk a).vm := Vm.Alike.refl U.vm
  exact ⟨fun i hi => (h1 i hi).moved hv, fun i hi => (h2 i hi).moved hv, ⟨h3.moved hv, h31.moved hv, h32.elim (fun h => Or.inl (h.moved hv)) (fun h => Or.inr (h.moved hv))⟩, h4.moved hv, h5.moved hv, fun i hi => (h6 i hi).same rfl, fun i hi => (h7 i hi).same rfl, h8.moved hv, h9.moved hv, fun w hw => va_Nw.same (u := U) (U := U.calling g mk a) (zNk_on (List.mem_filter.mp hw).2) rfl (h10 w hw)⟩
/-! the judgement; G: what a method's context says besides (of its handlers, of the script) -/
abbrev zGx : Type := List ExceptionTableEntry → (Nat → Nat) → (Nat → Prop) → State → Prop
def zG0 : zGx := fun et _ _ _ => ∀ x ∈ et, False
def zGe (G : zGx) : Prop := ∀ et ad A s, G et ad A s → ∀ x ∈ et, False
theorem zG0_e : zGe zG0 := fun _ _ _ _ h => h
def zCx (G : zGx) (la : Launch) (y : MethodName) (cc : ByteArray) (nL : Nat) (ret : Option FieldType) (p : Program) (s : State) (m : MethodId) (args : Array Value) (meth : Method) (c : Code) (D : va_G) (ad : Nat → Nat) (cy : Nat → ClassId) (A : Nat → Prop) : Prop :=
  la.flags = flags0 ∧ p.tables.exec = Jvm.exec ∧ c.code = cc ∧ meth.sig.returnType = ret ∧ c.maxLocals = nL ∧ s.vm.findClass y.cls = some m.cls ∧ (∀ w ∈ zTB, w.before args s = true) ∧ meth.locks = false ∧ G c.exceptionTable.toList ad A s ∧
  (∀ q, s.heap.size ≤ q → A q) ∧ (∀ i j, i < 133 → j < 133 → ad i = ad j → i = j) ∧ (∀ i, i < 133 → A (ad i)) ∧ va_K D vwCl (zTys cy) s ∧ zKs ad A s s.heap
def zQc (D : va_G) (ad : Nat → Nat) (cy : Nat → ClassId) (A : Nat → Prop) (Q : Option Value → zM → Prop) : Array Value → State → Outcome → State → Prop := fun _ st oc t => (∃ (r : Option Value) (M : zM), oc = .returned (r.map (zC ad)) ∧ Q r M ∧ va_P D vwCl (zWl ad cy M) t.heap) ∧ va_F A st t
def zXc (D : va_G) (ad : Nat → Nat) (cy : Nat → ClassId) (A : Nat → Prop) (X : String → zM → Prop) : String → State → State → Prop := fun E st t => (∃ M : zM, X E M ∧ va_P D vwCl (zWl ad cy M) t.heap) ∧ va_F A st t
def zJG (G : zGx) (y : MethodName) (cc : ByteArray) (nL : Nat) (ret : Option FieldType) (R : Room) (Q : Option Value → zM → Prop) (X : String → zM → Prop) (a b pc : Nat) (l : List (Option Value)) (st : List Value) (M : zM) : Prop :=
  ∀ (la : Launch) (p : Program) (e : Env) (s : State) (m : MethodId) (args : Array Value) (below : List Frame) (meth : Method) (c : Code) (D : va_G) (ad : Nat → Nat) (cy : Nat → ClassId) (A : Nat → Prop),
    zCx G la y cc nL ret p s m args meth c D ad cy A →
    ∀ (H : Heap) (locs : List Loc) (ls : Array Slot) (cells slots : Nat), va_P D vwCl (zWl ad cy M) H → va_S A s.heap H locs → zLR ad ls nL l → cells + a ≤ R.cells → slots + b ≤ R.slots →
      W p la e R s m args below meth c H locs cells slots (vx_MQ below (zQc D ad cy A Q) (zXc D ad cy A X) args s R.cells R.slots A) (F0 m pc ls (st.map (zC ad)))
abbrev zJ := zJG zG0
theorem zWl_D {ad : Nat → Nat} {cy : Nat → ClassId} {M : zM} {A : Nat → Prop} (h1 : ∀ i j, i < 133 → j < 133 → ad i = ad j → i = j) (h2 : ∀ i, i < 133 → A (ad i)) : va_D A (zWl ad cy M) := by
  refine ⟨fun i j p q hi hj he => ?_, fun k q hk => ?_⟩
  · obtain ⟨a1, rfl⟩ := zWl_get' hi
    obtain ⟨a2, rfl⟩ := zWl_get' hj
    exact h1 i j a1 a2 he
  · obtain ⟨a1, rfl⟩ := zWl_get' hk
    exact h2 k a1
section ZJ
variable {G : zGx} {y : MethodName} {cc : ByteArray} {nL : Nat} {ret : Option FieldType} {R : Room} {Q : Option Value → zM → Prop} {X : String → zM → Prop} {a b pc n : Nat} {l t : List (Option Value)} {st : List Value} {M : zM}
def zB2 : Option Value → Bool
  | some (.long _) => true
  | some (.double _) => true
  | _ => false
theorem zB2_cat {o : Option Value} {u : Value} (h : zB2 o = false) (e : o = some u) : u.category ≠ 2 := by
  subst e
  cases u <;> first | (cases h; done) | (intro q; cases q)
theorem zLR_put1 {ad : Nat → Nat} {ls' : Array Slot} {i : Nat} {l : List (Option Value)} {v : Value} (h : lv_has ls' nL ((i, zC ad v) :: (zPr ad 0 l).filter (fun q => !(q.1 == i) && !(q.1 + 1 == i && q.2.category == 2))))
    (hp : ∀ (j : Nat) (u : Value), j + 1 = i → l[j]? = some (some u) → u.category ≠ 2) : zLR ad ls' nL (l.set i (some v)) := by
  refine zLR_st1 h (fun j w hj => ?_)
  rw [List.getElem?_set] at hj
  by_cases hij : i = j
  · rw [if_pos hij] at hj
    split at hj
    · exact Or.inl ⟨hij.symm, (Option.some.inj (Option.some.inj hj)).symm⟩
    · cases hj
  · rw [if_neg hij] at hj
    exact Or.inr ⟨fun q => hij q.symm, hj, fun q => hp j w q.1 hj q.2⟩
theorem zLR_put2 {ad : Nat → Nat} {ls' : Array Slot} {i : Nat} {l : List (Option Value)} {v : Value} (h : lv_has ls' nL ((i, zC ad v) :: (zPr ad 0 l).filter (fun q => !(q.1 == i) && (!(q.1 == i + 1) && !(q.1 + 1 == i && q.2.category == 2)))))
    (hp : ∀ (j : Nat) (u : Value), j + 1 = i → l[j]? = some (some u) → u.category ≠ 2) : zLR ad ls' nL ((l.set i (some v)).set (i + 1) none) := by
  refine zLR_st2 h (fun j w hj => ?_)
  rw [List.getElem?_set] at hj
  by_cases h1 : i + 1 = j
  · rw [if_pos h1] at hj
    split at hj <;> cases hj
  · rw [if_neg h1, List.getElem?_set] at hj
    by_cases hij : i = j
    · rw [if_pos hij] at hj
      split at hj
      · exact Or.inl ⟨hij.symm, (Option.some.inj (Option.some.inj hj)).symm⟩
      · cases hj
    · rw [if_neg hij] at hj
      exact Or.inr ⟨fun q => hij q.symm, fun q => h1 q.symm, hj, fun q => hp j w q.1 hj q.2⟩
/-- fewer locals known -/
def zLe : List (Option Value) → List (Option Value) → Prop
  | [], _ => True
  | none :: r, _ :: r' => zLe r r'
  | some v :: r, some w :: r' => v = w ∧ zLe r r'
  | _, _ => False
theorem zLe_at : ∀ {l l' : List (Option Value)}, zLe l l' → ∀ (i : Nat) (v : Value), l[i]? = some (some v) → l'[i]? = some (some v)
  | [], _, _, i, v, h => by simp at h
  | none :: r, [], hl, i, v, h => by simp [zLe] at hl
  | some w :: r, [], hl, i, v, h => by simp [zLe] at hl
  | some w :: r, none :: r', hl, i, v, h => by simp [zLe] at hl
  | none :: r, x :: r', hl, i, v, h => by
    cases i with
    | zero => simp at h
    | succ i => simpa using zLe_at (l := r) (l' := r') hl i v (by simpa using h)
  | some w :: r, some x :: r', hl, i, v, h => by
    obtain ⟨rfl, hl⟩ := hl
    cases i with
    | zero => simpa using h
    | succ i => simpa using zLe_at (l := r) (l' := r') hl i v (by simpa using h)
theorem zj_sub {l l' : List (Option Value)} (hle : zLe l' l) (k : zJG G y cc nL ret R Q X a b pc l' st M) : zJG G y cc nL ret R Q X a b pc l st M := by
  intro la p e s m args below meth c D ad cy A hc H locs ls cells slots hP hS hl ha hb
  exact k la p e s m args below meth c D ad cy A hc H locs ls cells slots hP hS ⟨hl.1, hl.2.1, fun i v h => hl.2.2 i v (zLe_at hle i v h)⟩ ha hb
theorem zj_room {a' b' : Nat} (h1 : a' ≤ a) (h2 : b' ≤ b) (k : zJG G y cc nL ret R Q X a' b' pc l st M) : zJG G y cc nL ret R Q X a b pc l st M := by
  intro la p e s m args below meth c D ad cy A hc H locs ls cells slots hP hS hl ha hb
  exact k la p e s m args below meth c D ad cy A hc H locs ls cells slots hP hS hl (by omega) (by omega)
theorem zj_iconst_m1 (hn : pc + 1 = n) (hd : decode cc pc = .ok (.iconst (-1), 1)) (k : zJG G y cc nL ret R Q X a b n l (.int (-1) :: st) M) : zJG G y cc nL ret R Q X a b pc l (st) M := by
  subst hn
  intro la p e s m args below meth c D ad cy A hc H locs ls cells slots hP hS hl ha hb
  obtain ⟨hf, hx, hcb, hr, hml, hown, hts, hlk, het, hA, hi, hai, hK, hks⟩ := id hc
  refine lv_iconst (v := (-1)) hx hcb hd (by decide) ?_
  exact k la p e s m args below meth c D ad cy A hc H locs ls cells slots hP hS hl ha hb
theorem zj_iconst_0 (hn : pc + 1 = n) (hd : decode cc pc = .ok (.iconst 0, 1)) (k : zJG G y cc nL ret R Q X a b n l (.int 0 :: st) M) : zJG G y cc nL ret R Q X a b pc l (st) M := by
  subst hn
  intro la p e s m args below meth c D ad cy A hc H locs ls cells slots hP hS hl ha hb
  obtain ⟨hf, hx, hcb, hr, hml, hown, hts, hlk, het, hA, hi, hai, hK, hks⟩ := id hc
  refine lv_iconst (v := (0)) hx hcb hd (by decide) ?_
  exact k la p e s m args below meth c D ad cy A hc H locs ls cells slots hP hS hl ha hb
theorem zj_iconst_1 (hn : pc + 1 = n) (hd : decode cc pc = .ok (.iconst 1, 1)) (k : zJG G y cc nL ret R Q X a b n l (.int 1 :: st) M) : zJG G y cc nL ret R Q X a b pc l (st) M := by
  subst hn
  intro la p e s m args below meth c D ad cy A hc H locs ls cells slots hP hS hl ha hb
  obtain ⟨hf, hx, hcb, hr, hml, hown, hts, hlk, het, hA, hi, hai, hK, hks⟩ := id hc
  refine lv_iconst (v := (1)) hx hcb hd (by decide) ?_
  exact k la p e s m args below meth c D ad cy A hc H locs ls cells slots hP hS hl ha hb
theorem zj_iconst_2 (hn : pc + 1 = n) (hd : decode cc pc = .ok (.iconst 2, 1)) (k : zJG G y cc nL ret R Q X a b n l (.int 2 :: st) M) : zJG G y cc nL ret R Q X a b pc l (st) M := by
  subst hn
  intro la p e s m args below meth c D ad cy A hc H locs ls cells slots hP hS hl ha hb
  obtain ⟨hf, hx, hcb, hr, hml, hown, hts, hlk, het, hA, hi, hai, hK, hks⟩ := id hc
  refine lv_iconst (v := (2)) hx hcb hd (by decide) ?_
  exact k la p e s m args below meth c D ad cy A hc H locs ls cells slots hP hS hl ha hb
theorem zj_iconst_3 (hn : pc + 1 = n) (hd : decode cc pc = .ok (.iconst 3, 1)) (k : zJG G y cc nL ret R Q X a b n l (.int 3 :: st) M) : zJG G y cc nL ret R Q X a b pc l (st) M := by
  subst hn
  intro la p e s m args below meth c D ad cy A hc H locs ls cells slots hP hS hl ha hb
  obtain ⟨hf, hx, hcb, hr, hml, hown, hts, hlk, het, hA, hi, hai, hK, hks⟩ := id hc
  refine lv_iconst (v := (3)) hx hcb hd (by decide) ?_
  exact k la p e s m args below meth c D ad cy A hc H locs ls cells slots hP hS hl ha hb
theorem zj_iconst_4 (hn : pc + 1 = n) (hd : decode cc pc = .ok (.iconst 4, 1)) (k : zJG G y cc nL ret R Q X a b n l (.int 4 :: st) M) : zJG G y cc nL ret R Q X a b pc l (st) M := by
  subst hn
  intro la p e s m args below meth c D ad cy A hc H locs ls cells slots hP hS hl ha hb
  obtain ⟨hf, hx, hcb, hr, hml, hown, hts, hlk, het, hA, hi, hai, hK, hks⟩ := id hc
  refine lv_iconst (v := (4)) hx hcb hd (by decide) ?_
  exact k la p e s m args below meth c D ad cy A hc H locs ls cells slots hP hS hl ha hb
theorem zj_iconst_5 (hn : pc + 1 = n) (hd : decode cc pc = .ok (.iconst 5, 1)) (k : zJG G y cc nL ret R Q X a b n l (.int 5 :: st) M) : zJG G y cc nL ret R Q X a b pc l (st) M := by
  subst hn
  intro la p e s m args below meth c D ad cy A hc H locs ls cells slots hP hS hl ha hb
  obtain ⟨hf, hx, hcb, hr, hml, hown, hts, hlk, het, hA, hi, hai, hK, hks⟩ := id hc
  refine lv_iconst (v := (5)) hx hcb hd (by decide) ?_
  exact k la p e s m args below meth c D ad cy A hc H locs ls cells slots hP hS hl ha hb
theorem zj_bipush {i : Int} {v : Int32} (hn : pc + 2 = n) (hd : decode cc pc = .ok (.bipush i, 2)) (hv : (Int8.ofInt i).toInt32 = v) (k : zJG G y cc nL ret R Q X a b n l (.int v :: st) M) : zJG G y cc nL ret R Q X a b pc l (st) M := by
  subst hn
  intro la p e s m args below meth c D ad cy A hc H locs ls cells slots hP hS hl ha hb
  obtain ⟨hf, hx, hcb, hr, hml, hown, hts, hlk, het, hA, hi, hai, hK, hks⟩ := id hc
  refine lv_bipush hx hcb hd hv ?_
  exact k la p e s m args below meth c D ad cy A hc H locs ls cells slots hP hS hl ha hb
theorem zj_sipush {i : Int} {v : Int32} (hn : pc + 3 = n) (hd : decode cc pc = .ok (.sipush i, 3)) (hv : (Int16.ofInt i).toInt32 = v) (k : zJG G y cc nL ret R Q X a b n l (.int v :: st) M) : zJG G y cc nL ret R Q X a b pc l (st) M := by
  subst hn
  intro la p e s m args below meth c D ad cy A hc H locs ls cells slots hP hS hl ha hb
  obtain ⟨hf, hx, hcb, hr, hml, hown, hts, hlk, het, hA, hi, hai, hK, hks⟩ := id hc
  refine lv_sipush hx hcb hd hv ?_
  exact k la p e s m args below meth c D ad cy A hc H locs ls cells slots hP hS hl ha hb
theorem zj_lconst_0 (hn : pc + 1 = n) (hd : decode cc pc = .ok (.lconst 0, 1)) (k : zJG G y cc nL ret R Q X a b n l (.long 0 :: st) M) : zJG G y cc nL ret R Q X a b pc l (st) M := by
  subst hn
  intro la p e s m args below meth c D ad cy A hc H locs ls cells slots hP hS hl ha hb
  obtain ⟨hf, hx, hcb, hr, hml, hown, hts, hlk, het, hA, hi, hai, hK, hks⟩ := id hc
  refine lv_lconst (v := 0) hx hcb hd (by decide) ?_
  exact k la p e s m args below meth c D ad cy A hc H locs ls cells slots hP hS hl ha hb
theorem zj_lconst_1 (hn : pc + 1 = n) (hd : decode cc pc = .ok (.lconst 1, 1)) (k : zJG G y cc nL ret R Q X a b n l (.long 1 :: st) M) : zJG G y cc nL ret R Q X a b pc l (st) M := by
  subst hn
  intro la p e s m args below meth c D ad cy A hc H locs ls cells slots hP hS hl ha hb
  obtain ⟨hf, hx, hcb, hr, hml, hown, hts, hlk, het, hA, hi, hai, hK, hks⟩ := id hc
  refine lv_lconst (v := 1) hx hcb hd (by decide) ?_
  exact k la p e s m args below meth c D ad cy A hc H locs ls cells slots hP hS hl ha hb
theorem zj_dconst_0 (hn : pc + 1 = n) (hd : decode cc pc = .ok (.dconst 0, 1)) (k : zJG G y cc nL ret R Q X a b n l (.double FP.dconst0 :: st) M) : zJG G y cc nL ret R Q X a b pc l (st) M := by
  subst hn
  intro la p e s m args below meth c D ad cy A hc H locs ls cells slots hP hS hl ha hb
  obtain ⟨hf, hx, hcb, hr, hml, hown, hts, hlk, het, hA, hi, hai, hK, hks⟩ := id hc
  refine lv_dconst0 hx hcb hd ?_
  exact k la p e s m args below meth c D ad cy A hc H locs ls cells slots hP hS hl ha hb
theorem zj_dconst_1 (hn : pc + 1 = n) (hd : decode cc pc = .ok (.dconst 1, 1)) (k : zJG G y cc nL ret R Q X a b n l (.double FP.dconst1 :: st) M) : zJG G y cc nL ret R Q X a b pc l (st) M := by
  subst hn
  intro la p e s m args below meth c D ad cy A hc H locs ls cells slots hP hS hl ha hb
  obtain ⟨hf, hx, hcb, hr, hml, hown, hts, hlk, het, hA, hi, hai, hK, hks⟩ := id hc
  refine lv_dconst1 hx hcb hd ?_
  exact k la p e s m args below meth c D ad cy A hc H locs ls cells slots hP hS hl ha hb
theorem zj_ldc {i : Nat} {v : Int32} (hn : pc + 2 = n) (hd : decode cc pc = .ok (.ldc i, 2)) (hw : Jvm.Cond.constant y.cls i v ∈ zTB) (k : zJG G y cc nL ret R Q X a b n l (.int v :: st) M) : zJG G y cc nL ret R Q X a b pc l (st) M := by
  subst hn
  intro la p e s m args below meth c D ad cy A hc H locs ls cells slots hP hS hl ha hb
  obtain ⟨hf, hx, hcb, hr, hml, hown, hts, hlk, het, hA, hi, hai, hK, hks⟩ := id hc
  refine lv_ldc hx hcb hown (hts _ hw) hd ?_
  exact k la p e s m args below meth c D ad cy A hc H locs ls cells slots hP hS hl ha hb
theorem zj_ldcw {i : Nat} {v : Int32} (hn : pc + 3 = n) (hd : decode cc pc = .ok (.ldc_w i, 3)) (hw : Jvm.Cond.constant y.cls i v ∈ zTB) (k : zJG G y cc nL ret R Q X a b n l (.int v :: st) M) : zJG G y cc nL ret R Q X a b pc l (st) M := by
  subst hn
  intro la p e s m args below meth c D ad cy A hc H locs ls cells slots hP hS hl ha hb
  obtain ⟨hf, hx, hcb, hr, hml, hown, hts, hlk, het, hA, hi, hai, hK, hks⟩ := id hc
  refine lv_ldcw hx hcb hown (hts _ hw) hd ?_
  exact k la p e s m args below meth c D ad cy A hc H locs ls cells slots hP hS hl ha hb
theorem zj_ldc2 {i : Nat} {v : Int64} (hn : pc + 3 = n) (hd : decode cc pc = .ok (.ldc2_w i, 3)) (hw : Jvm.Cond.constantLong y.cls i v ∈ zTB) (k : zJG G y cc nL ret R Q X a b n l (.long v :: st) M) : zJG G y cc nL ret R Q X a b pc l (st) M := by
  subst hn
  intro la p e s m args below meth c D ad cy A hc H locs ls cells slots hP hS hl ha hb
  obtain ⟨hf, hx, hcb, hr, hml, hown, hts, hlk, het, hA, hi, hai, hK, hks⟩ := id hc
  refine lv_ldc2 hx hcb hown (hts _ hw) hd ?_
  exact k la p e s m args below meth c D ad cy A hc H locs ls cells slots hP hS hl ha hb
theorem zj_ldc2d {i : Nat} {v : UInt64} (hn : pc + 3 = n) (hd : decode cc pc = .ok (.ldc2_w i, 3)) (hw : Jvm.Cond.constantDouble y.cls i v ∈ zTB) (k : zJG G y cc nL ret R Q X a b n l (.double v :: st) M) : zJG G y cc nL ret R Q X a b pc l (st) M := by
  subst hn
  intro la p e s m args below meth c D ad cy A hc H locs ls cells slots hP hS hl ha hb
  obtain ⟨hf, hx, hcb, hr, hml, hown, hts, hlk, het, hA, hi, hai, hK, hks⟩ := id hc
  refine lv_ldc2d hx hcb hown (hts _ hw) hd ?_
  exact k la p e s m args below meth c D ad cy A hc H locs ls cells slots hP hS hl ha hb
theorem zj_iadd {x z : Int32} (hn : pc + 1 = n) (hd : decode cc pc = .ok (.iadd, 1)) (k : zJG G y cc nL ret R Q X a b n l (.int (x + z) :: st) M) : zJG G y cc nL ret R Q X a b pc l (.int z :: .int x :: st) M := by
  subst hn
  intro la p e s m args below meth c D ad cy A hc H locs ls cells slots hP hS hl ha hb
  obtain ⟨hf, hx, hcb, hr, hml, hown, hts, hlk, het, hA, hi, hai, hK, hks⟩ := id hc
  refine lv_iadd hx hcb hd ?_
  exact k la p e s m args below meth c D ad cy A hc H locs ls cells slots hP hS hl ha hb
theorem zj_isub {x z : Int32} (hn : pc + 1 = n) (hd : decode cc pc = .ok (.isub, 1)) (k : zJG G y cc nL ret R Q X a b n l (.int (x - z) :: st) M) : zJG G y cc nL ret R Q X a b pc l (.int z :: .int x :: st) M := by
  subst hn
  intro la p e s m args below meth c D ad cy A hc H locs ls cells slots hP hS hl ha hb
  obtain ⟨hf, hx, hcb, hr, hml, hown, hts, hlk, het, hA, hi, hai, hK, hks⟩ := id hc
  refine lv_isub hx hcb hd ?_
  exact k la p e s m args below meth c D ad cy A hc H locs ls cells slots hP hS hl ha hb
theorem zj_imul {x z : Int32} (hn : pc + 1 = n) (hd : decode cc pc = .ok (.imul, 1)) (k : zJG G y cc nL ret R Q X a b n l (.int (x * z) :: st) M) : zJG G y cc nL ret R Q X a b pc l (.int z :: .int x :: st) M := by
  subst hn
  intro la p e s m args below meth c D ad cy A hc H locs ls cells slots hP hS hl ha hb
  obtain ⟨hf, hx, hcb, hr, hml, hown, hts, hlk, het, hA, hi, hai, hK, hks⟩ := id hc
  refine lv_imul hx hcb hd ?_
  exact k la p e s m args below meth c D ad cy A hc H locs ls cells slots hP hS hl ha hb
theorem zj_iand {x z : Int32} (hn : pc + 1 = n) (hd : decode cc pc = .ok (.iand, 1)) (k : zJG G y cc nL ret R Q X a b n l (.int (x &&& z) :: st) M) : zJG G y cc nL ret R Q X a b pc l (.int z :: .int x :: st) M := by
  subst hn
  intro la p e s m args below meth c D ad cy A hc H locs ls cells slots hP hS hl ha hb
  obtain ⟨hf, hx, hcb, hr, hml, hown, hts, hlk, het, hA, hi, hai, hK, hks⟩ := id hc
  refine lv_iand hx hcb hd ?_
  exact k la p e s m args below meth c D ad cy A hc H locs ls cells slots hP hS hl ha hb
theorem zj_ior {x z : Int32} (hn : pc + 1 = n) (hd : decode cc pc = .ok (.ior, 1)) (k : zJG G y cc nL ret R Q X a b n l (.int (x ||| z) :: st) M) : zJG G y cc nL ret R Q X a b pc l (.int z :: .int x :: st) M := by
  subst hn
  intro la p e s m args below meth c D ad cy A hc H locs ls cells slots hP hS hl ha hb
  obtain ⟨hf, hx, hcb, hr, hml, hown, hts, hlk, het, hA, hi, hai, hK, hks⟩ := id hc
  refine lv_ior hx hcb hd ?_
  exact k la p e s m args below meth c D ad cy A hc H locs ls cells slots hP hS hl ha hb
theorem zj_ixor {x z : Int32} (hn : pc + 1 = n) (hd : decode cc pc = .ok (.ixor, 1)) (k : zJG G y cc nL ret R Q X a b n l (.int (x ^^^ z) :: st) M) : zJG G y cc nL ret R Q X a b pc l (.int z :: .int x :: st) M := by
  subst hn
  intro la p e s m args below meth c D ad cy A hc H locs ls cells slots hP hS hl ha hb
  obtain ⟨hf, hx, hcb, hr, hml, hown, hts, hlk, het, hA, hi, hai, hK, hks⟩ := id hc
  refine lv_ixor hx hcb hd ?_
  exact k la p e s m args below meth c D ad cy A hc H locs ls cells slots hP hS hl ha hb
theorem zj_ishl {x z : Int32} (hn : pc + 1 = n) (hd : decode cc pc = .ok (.ishl, 1)) (k : zJG G y cc nL ret R Q X a b n l (.int (x <<< (z &&& 31)) :: st) M) : zJG G y cc nL ret R Q X a b pc l (.int z :: .int x :: st) M := by
  subst hn
  intro la p e s m args below meth c D ad cy A hc H locs ls cells slots hP hS hl ha hb
  obtain ⟨hf, hx, hcb, hr, hml, hown, hts, hlk, het, hA, hi, hai, hK, hks⟩ := id hc
  refine lv_ishl hx hcb hd ?_
  exact k la p e s m args below meth c D ad cy A hc H locs ls cells slots hP hS hl ha hb
theorem zj_ishr {x z : Int32} (hn : pc + 1 = n) (hd : decode cc pc = .ok (.ishr, 1)) (k : zJG G y cc nL ret R Q X a b n l (.int (x >>> (z &&& 31)) :: st) M) : zJG G y cc nL ret R Q X a b pc l (.int z :: .int x :: st) M := by
  subst hn
  intro la p e s m args below meth c D ad cy A hc H locs ls cells slots hP hS hl ha hb
  obtain ⟨hf, hx, hcb, hr, hml, hown, hts, hlk, het, hA, hi, hai, hK, hks⟩ := id hc
  refine lv_ishr hx hcb hd ?_
  exact k la p e s m args below meth c D ad cy A hc H locs ls cells slots hP hS hl ha hb
theorem zj_iushr {x z : Int32} (hn : pc + 1 = n) (hd : decode cc pc = .ok (.iushr, 1)) (k : zJG G y cc nL ret R Q X a b n l (.int ((x.toUInt32 >>> (z.toUInt32 &&& Int32.toUInt32 31)).toInt32) :: st) M) : zJG G y cc nL ret R Q X a b pc l (.int z :: .int x :: st) M := by
  subst hn
  intro la p e s m args below meth c D ad cy A hc H locs ls cells slots hP hS hl ha hb
  obtain ⟨hf, hx, hcb, hr, hml, hown, hts, hlk, het, hA, hi, hai, hK, hks⟩ := id hc
  refine lv_iushr hx hcb hd rfl ?_
  exact k la p e s m args below meth c D ad cy A hc H locs ls cells slots hP hS hl ha hb
theorem zj_idiv {x z : Int32} (hn : pc + 1 = n) (hd : decode cc pc = .ok (.idiv, 1)) (hz : ¬ z = 0) (k : zJG G y cc nL ret R Q X a b n l (.int (x / z) :: st) M) : zJG G y cc nL ret R Q X a b pc l (.int z :: .int x :: st) M := by
  subst hn
  intro la p e s m args below meth c D ad cy A hc H locs ls cells slots hP hS hl ha hb
  obtain ⟨hf, hx, hcb, hr, hml, hown, hts, hlk, het, hA, hi, hai, hK, hks⟩ := id hc
  refine lv_idiv hx hcb hd hz ?_
  exact k la p e s m args below meth c D ad cy A hc H locs ls cells slots hP hS hl ha hb
theorem zj_irem {x z : Int32} (hn : pc + 1 = n) (hd : decode cc pc = .ok (.irem, 1)) (hz : ¬ z = 0) (k : zJG G y cc nL ret R Q X a b n l (.int (x - x / z * z) :: st) M) : zJG G y cc nL ret R Q X a b pc l (.int z :: .int x :: st) M := by
  subst hn
  intro la p e s m args below meth c D ad cy A hc H locs ls cells slots hP hS hl ha hb
  obtain ⟨hf, hx, hcb, hr, hml, hown, hts, hlk, het, hA, hi, hai, hK, hks⟩ := id hc
  refine lv_irem hx hcb hd hz ?_
  exact k la p e s m args below meth c D ad cy A hc H locs ls cells slots hP hS hl ha hb
theorem zj_ineg {x : Int32} (hn : pc + 1 = n) (hd : decode cc pc = .ok (.ineg, 1)) (k : zJG G y cc nL ret R Q X a b n l (.int (-x) :: st) M) : zJG G y cc nL ret R Q X a b pc l (.int x :: st) M := by
  subst hn
  intro la p e s m args below meth c D ad cy A hc H locs ls cells slots hP hS hl ha hb
  obtain ⟨hf, hx, hcb, hr, hml, hown, hts, hlk, het, hA, hi, hai, hK, hks⟩ := id hc
  refine lv_ineg hx hcb hd ?_
  exact k la p e s m args below meth c D ad cy A hc H locs ls cells slots hP hS hl ha hb
theorem zj_i2l {x : Int32} (hn : pc + 1 = n) (hd : decode cc pc = .ok (.i2l, 1)) (k : zJG G y cc nL ret R Q X a b n l (.long x.toInt64 :: st) M) : zJG G y cc nL ret R Q X a b pc l (.int x :: st) M := by
  subst hn
  intro la p e s m args below meth c D ad cy A hc H locs ls cells slots hP hS hl ha hb
  obtain ⟨hf, hx, hcb, hr, hml, hown, hts, hlk, het, hA, hi, hai, hK, hks⟩ := id hc
  refine lv_i2l hx hcb hd rfl ?_
  exact k la p e s m args below meth c D ad cy A hc H locs ls cells slots hP hS hl ha hb
theorem zj_l2i {x : Int64} (hn : pc + 1 = n) (hd : decode cc pc = .ok (.l2i, 1)) (k : zJG G y cc nL ret R Q X a b n l (.int x.toInt32 :: st) M) : zJG G y cc nL ret R Q X a b pc l (.long x :: st) M := by
  subst hn
  intro la p e s m args below meth c D ad cy A hc H locs ls cells slots hP hS hl ha hb
  obtain ⟨hf, hx, hcb, hr, hml, hown, hts, hlk, het, hA, hi, hai, hK, hks⟩ := id hc
  refine lv_l2i hx hcb hd rfl ?_
  exact k la p e s m args below meth c D ad cy A hc H locs ls cells slots hP hS hl ha hb
theorem zj_i2b {x : Int32} (hn : pc + 1 = n) (hd : decode cc pc = .ok (.i2b, 1)) (k : zJG G y cc nL ret R Q X a b n l (.int x.toInt8.toInt32 :: st) M) : zJG G y cc nL ret R Q X a b pc l (.int x :: st) M := by
  subst hn
  intro la p e s m args below meth c D ad cy A hc H locs ls cells slots hP hS hl ha hb
  obtain ⟨hf, hx, hcb, hr, hml, hown, hts, hlk, het, hA, hi, hai, hK, hks⟩ := id hc
  refine lv_i2b hx hcb hd rfl ?_
  exact k la p e s m args below meth c D ad cy A hc H locs ls cells slots hP hS hl ha hb
theorem zj_i2d {x : Int32} (hn : pc + 1 = n) (hd : decode cc pc = .ok (.i2d, 1)) (k : zJG G y cc nL ret R Q X a b n l (.double (FP.i2d x) :: st) M) : zJG G y cc nL ret R Q X a b pc l (.int x :: st) M := by
  subst hn
  intro la p e s m args below meth c D ad cy A hc H locs ls cells slots hP hS hl ha hb
  obtain ⟨hf, hx, hcb, hr, hml, hown, hts, hlk, het, hA, hi, hai, hK, hks⟩ := id hc
  refine lv_i2d hx hcb hd ?_
  exact k la p e s m args below meth c D ad cy A hc H locs ls cells slots hP hS hl ha hb
theorem zj_l2d {x : Int64} (hn : pc + 1 = n) (hd : decode cc pc = .ok (.l2d, 1)) (k : zJG G y cc nL ret R Q X a b n l (.double (FP.l2d x) :: st) M) : zJG G y cc nL ret R Q X a b pc l (.long x :: st) M := by
  subst hn
  intro la p e s m args below meth c D ad cy A hc H locs ls cells slots hP hS hl ha hb
  obtain ⟨hf, hx, hcb, hr, hml, hown, hts, hlk, het, hA, hi, hai, hK, hks⟩ := id hc
  refine lv_l2d hx hcb hd ?_
  exact k la p e s m args below meth c D ad cy A hc H locs ls cells slots hP hS hl ha hb
theorem zj_ladd {x z : Int64} (hn : pc + 1 = n) (hd : decode cc pc = .ok (.ladd, 1)) (k : zJG G y cc nL ret R Q X a b n l (.long (x + z) :: st) M) : zJG G y cc nL ret R Q X a b pc l (.long z :: .long x :: st) M := by
  subst hn
  intro la p e s m args below meth c D ad cy A hc H locs ls cells slots hP hS hl ha hb
  obtain ⟨hf, hx, hcb, hr, hml, hown, hts, hlk, het, hA, hi, hai, hK, hks⟩ := id hc
  refine lv_ladd hx hcb hd ?_
  exact k la p e s m args below meth c D ad cy A hc H locs ls cells slots hP hS hl ha hb
theorem zj_lsub {x z : Int64} (hn : pc + 1 = n) (hd : decode cc pc = .ok (.lsub, 1)) (k : zJG G y cc nL ret R Q X a b n l (.long (x - z) :: st) M) : zJG G y cc nL ret R Q X a b pc l (.long z :: .long x :: st) M := by
  subst hn
  intro la p e s m args below meth c D ad cy A hc H locs ls cells slots hP hS hl ha hb
  obtain ⟨hf, hx, hcb, hr, hml, hown, hts, hlk, het, hA, hi, hai, hK, hks⟩ := id hc
  refine lv_lsub hx hcb hd ?_
  exact k la p e s m args below meth c D ad cy A hc H locs ls cells slots hP hS hl ha hb
theorem zj_lmul {x z : Int64} (hn : pc + 1 = n) (hd : decode cc pc = .ok (.lmul, 1)) (k : zJG G y cc nL ret R Q X a b n l (.long (x * z) :: st) M) : zJG G y cc nL ret R Q X a b pc l (.long z :: .long x :: st) M := by
  subst hn
  intro la p e s m args below meth c D ad cy A hc H locs ls cells slots hP hS hl ha hb
  obtain ⟨hf, hx, hcb, hr, hml, hown, hts, hlk, het, hA, hi, hai, hK, hks⟩ := id hc
  refine lv_lmul hx hcb hd ?_
  exact k la p e s m args below meth c D ad cy A hc H locs ls cells slots hP hS hl ha hb
theorem zj_ldiv {x z : Int64} (hn : pc + 1 = n) (hd : decode cc pc = .ok (.ldiv, 1)) (hz : ¬ z = 0) (k : zJG G y cc nL ret R Q X a b n l (.long (x / z) :: st) M) : zJG G y cc nL ret R Q X a b pc l (.long z :: .long x :: st) M := by
  subst hn
  intro la p e s m args below meth c D ad cy A hc H locs ls cells slots hP hS hl ha hb
  obtain ⟨hf, hx, hcb, hr, hml, hown, hts, hlk, het, hA, hi, hai, hK, hks⟩ := id hc
  refine lv_ldiv hx hcb hd hz ?_
  exact k la p e s m args below meth c D ad cy A hc H locs ls cells slots hP hS hl ha hb
theorem zj_lcmp {x z : Int64} (hn : pc + 1 = n) (hd : decode cc pc = .ok (.lcmp, 1)) (k : zJG G y cc nL ret R Q X a b n l (.int (lg_cmp x z) :: st) M) : zJG G y cc nL ret R Q X a b pc l (.long z :: .long x :: st) M := by
  subst hn
  intro la p e s m args below meth c D ad cy A hc H locs ls cells slots hP hS hl ha hb
  obtain ⟨hf, hx, hcb, hr, hml, hown, hts, hlk, het, hA, hi, hai, hK, hks⟩ := id hc
  refine W.lcmp hx hcb hd ?_
  exact k la p e s m args below meth c D ad cy A hc H locs ls cells slots hP hS hl ha hb
theorem zj_dadd {x z : UInt64} (hn : pc + 1 = n) (hd : decode cc pc = .ok (.dadd, 1)) (hz : vf_n64 (FP.dadd x z)) (k : zJG G y cc nL ret R Q X a b n l (.double (FP.dadd x z) :: st) M) : zJG G y cc nL ret R Q X a b pc l (.double z :: .double x :: st) M := by
  subst hn
  intro la p e s m args below meth c D ad cy A hc H locs ls cells slots hP hS hl ha hb
  obtain ⟨hf, hx, hcb, hr, hml, hown, hts, hlk, het, hA, hi, hai, hK, hks⟩ := id hc
  refine lv_dadd hx hcb hd hz ?_
  exact k la p e s m args below meth c D ad cy A hc H locs ls cells slots hP hS hl ha hb
theorem zj_ddiv {x z : UInt64} (hn : pc + 1 = n) (hd : decode cc pc = .ok (.ddiv, 1)) (hz : vf_n64 (FP.ddiv x z)) (k : zJG G y cc nL ret R Q X a b n l (.double (FP.ddiv x z) :: st) M) : zJG G y cc nL ret R Q X a b pc l (.double z :: .double x :: st) M := by
  subst hn
  intro la p e s m args below meth c D ad cy A hc H locs ls cells slots hP hS hl ha hb
  obtain ⟨hf, hx, hcb, hr, hml, hown, hts, hlk, het, hA, hi, hai, hK, hks⟩ := id hc
  refine lv_ddiv hx hcb hd hz ?_
  exact k la p e s m args below meth c D ad cy A hc H locs ls cells slots hP hS hl ha hb
theorem zj_dcmp {x z : UInt64} {op : CmpOp} (hn : pc + 1 = n) (hd : decode cc pc = .ok (.dcmp op, 1)) (k : zJG G y cc nL ret R Q X a b n l (.int (Op.cmpValue (FP.dcmp x z) op) :: st) M) : zJG G y cc nL ret R Q X a b pc l (.double z :: .double x :: st) M := by
  subst hn
  intro la p e s m args below meth c D ad cy A hc H locs ls cells slots hP hS hl ha hb
  obtain ⟨hf, hx, hcb, hr, hml, hown, hts, hlk, het, hA, hi, hai, hK, hks⟩ := id hc
  refine lv_dcmp hx hcb hd ?_
  exact k la p e s m args below meth c D ad cy A hc H locs ls cells slots hP hS hl ha hb
theorem zj_dupi {x : Int32} (hn : pc + 1 = n) (hd : decode cc pc = .ok (.dup, 1)) (k : zJG G y cc nL ret R Q X a b n l (.int x :: .int x :: st) M) : zJG G y cc nL ret R Q X a b pc l (.int x :: st) M := by
  subst hn
  intro la p e s m args below meth c D ad cy A hc H locs ls cells slots hP hS hl ha hb
  obtain ⟨hf, hx, hcb, hr, hml, hown, hts, hlk, het, hA, hi, hai, hK, hks⟩ := id hc
  refine lv_dup hx hcb hd rfl ?_
  exact k la p e s m args below meth c D ad cy A hc H locs ls cells slots hP hS hl ha hb
theorem zj_dupr {x : Nat} (hn : pc + 1 = n) (hd : decode cc pc = .ok (.dup, 1)) (k : zJG G y cc nL ret R Q X a b n l (.ref x :: .ref x :: st) M) : zJG G y cc nL ret R Q X a b pc l (.ref x :: st) M := by
  subst hn
  intro la p e s m args below meth c D ad cy A hc H locs ls cells slots hP hS hl ha hb
  obtain ⟨hf, hx, hcb, hr, hml, hown, hts, hlk, het, hA, hi, hai, hK, hks⟩ := id hc
  refine lv_dup hx hcb hd rfl ?_
  exact k la p e s m args below meth c D ad cy A hc H locs ls cells slots hP hS hl ha hb
theorem zj_pop {x : Int32} (hn : pc + 1 = n) (hd : decode cc pc = .ok (.pop, 1)) (k : zJG G y cc nL ret R Q X a b n l (st) M) : zJG G y cc nL ret R Q X a b pc l (.int x :: st) M := by
  subst hn
  intro la p e s m args below meth c D ad cy A hc H locs ls cells slots hP hS hl ha hb
  obtain ⟨hf, hx, hcb, hr, hml, hown, hts, hlk, het, hA, hi, hai, hK, hks⟩ := id hc
  refine lv_pop hx hcb hd rfl ?_
  exact k la p e s m args below meth c D ad cy A hc H locs ls cells slots hP hS hl ha hb
theorem zj_dup2 {x : Int32} {z : Nat} (hn : pc + 1 = n) (hd : decode cc pc = .ok (.dup2, 1)) (k : zJG G y cc nL ret R Q X a b n l (.int x :: .ref z :: .int x :: .ref z :: st) M) : zJG G y cc nL ret R Q X a b pc l (.int x :: .ref z :: st) M := by
  subst hn
  intro la p e s m args below meth c D ad cy A hc H locs ls cells slots hP hS hl ha hb
  obtain ⟨hf, hx, hcb, hr, hml, hown, hts, hlk, het, hA, hi, hai, hK, hks⟩ := id hc
  refine lv_dup2_11 hx hcb hd rfl rfl ?_
  exact k la p e s m args below meth c D ad cy A hc H locs ls cells slots hP hS hl ha hb
theorem zj_iload0 {x : Int32} (hn : pc + 1 = n) (hd : decode cc pc = .ok (.iload_n 0, 1)) (k : zJG G y cc nL ret R Q X a b n (some (.int x) :: t) (.int x :: st) M) : zJG G y cc nL ret R Q X a b pc (some (.int x) :: t) st M := by
  subst hn
  intro la p e s m args below meth c D ad cy A hc H locs ls cells slots hP hS hl ha hb
  obtain ⟨hf, hx, hcb, hr, hml, hown, hts, hlk, het, hA, hi, hai, hK, hks⟩ := id hc
  refine lv_iload_n hx hcb hd rfl (zLR_at hl (i := 0) (v := .int x) rfl) ?_
  exact k la p e s m args below meth c D ad cy A hc H locs ls cells slots hP hS hl ha hb
theorem zj_iload1 {v0 : Option Value} {x : Int32} (hn : pc + 1 = n) (hd : decode cc pc = .ok (.iload_n 1, 1)) (k : zJG G y cc nL ret R Q X a b n (v0 :: some (.int x) :: t) (.int x :: st) M) : zJG G y cc nL ret R Q X a b pc (v0 :: some (.int x) :: t) st M := by
  subst hn
  intro la p e s m args below meth c D ad cy A hc H locs ls cells slots hP hS hl ha hb
  obtain ⟨hf, hx, hcb, hr, hml, hown, hts, hlk, het, hA, hi, hai, hK, hks⟩ := id hc
  refine lv_iload_n hx hcb hd rfl (zLR_at hl (i := 1) (v := .int x) rfl) ?_
  exact k la p e s m args below meth c D ad cy A hc H locs ls cells slots hP hS hl ha hb
theorem zj_iload2 {v0 v1 : Option Value} {x : Int32} (hn : pc + 1 = n) (hd : decode cc pc = .ok (.iload_n 2, 1)) (k : zJG G y cc nL ret R Q X a b n (v0 :: v1 :: some (.int x) :: t) (.int x :: st) M) : zJG G y cc nL ret R Q X a b pc (v0 :: v1 :: some (.int x) :: t) st M := by
  subst hn
  intro la p e s m args below meth c D ad cy A hc H locs ls cells slots hP hS hl ha hb
  obtain ⟨hf, hx, hcb, hr, hml, hown, hts, hlk, het, hA, hi, hai, hK, hks⟩ := id hc
  refine lv_iload_n hx hcb hd rfl (zLR_at hl (i := 2) (v := .int x) rfl) ?_
  exact k la p e s m args below meth c D ad cy A hc H locs ls cells slots hP hS hl ha hb
theorem zj_iload3 {v0 v1 v2 : Option Value} {x : Int32} (hn : pc + 1 = n) (hd : decode cc pc = .ok (.iload_n 3, 1)) (k : zJG G y cc nL ret R Q X a b n (v0 :: v1 :: v2 :: some (.int x) :: t) (.int x :: st) M) : zJG G y cc nL ret R Q X a b pc (v0 :: v1 :: v2 :: some (.int x) :: t) st M := by
  subst hn
  intro la p e s m args below meth c D ad cy A hc H locs ls cells slots hP hS hl ha hb
  obtain ⟨hf, hx, hcb, hr, hml, hown, hts, hlk, het, hA, hi, hai, hK, hks⟩ := id hc
  refine lv_iload_n hx hcb hd rfl (zLR_at hl (i := 3) (v := .int x) rfl) ?_
  exact k la p e s m args below meth c D ad cy A hc H locs ls cells slots hP hS hl ha hb
theorem zj_iload4 {v0 v1 v2 v3 : Option Value} {x : Int32} (hn : pc + 2 = n) (hd : decode cc pc = .ok (.iload 4, 2)) (k : zJG G y cc nL ret R Q X a b n (v0 :: v1 :: v2 :: v3 :: some (.int x) :: t) (.int x :: st) M) : zJG G y cc nL ret R Q X a b pc (v0 :: v1 :: v2 :: v3 :: some (.int x) :: t) st M := by
  subst hn
  intro la p e s m args below meth c D ad cy A hc H locs ls cells slots hP hS hl ha hb
  obtain ⟨hf, hx, hcb, hr, hml, hown, hts, hlk, het, hA, hi, hai, hK, hks⟩ := id hc
  refine lv_iload hx hcb hd (zLR_at hl (i := 4) (v := .int x) rfl) ?_
  exact k la p e s m args below meth c D ad cy A hc H locs ls cells slots hP hS hl ha hb
theorem zj_iload5 {v0 v1 v2 v3 v4 : Option Value} {x : Int32} (hn : pc + 2 = n) (hd : decode cc pc = .ok (.iload 5, 2)) (k : zJG G y cc nL ret R Q X a b n (v0 :: v1 :: v2 :: v3 :: v4 :: some (.int x) :: t) (.int x :: st) M) : zJG G y cc nL ret R Q X a b pc (v0 :: v1 :: v2 :: v3 :: v4 :: some (.int x) :: t) st M := by
  subst hn
  intro la p e s m args below meth c D ad cy A hc H locs ls cells slots hP hS hl ha hb
  obtain ⟨hf, hx, hcb, hr, hml, hown, hts, hlk, het, hA, hi, hai, hK, hks⟩ := id hc
  refine lv_iload hx hcb hd (zLR_at hl (i := 5) (v := .int x) rfl) ?_
  exact k la p e s m args below meth c D ad cy A hc H locs ls cells slots hP hS hl ha hb
theorem zj_iload6 {v0 v1 v2 v3 v4 v5 : Option Value} {x : Int32} (hn : pc + 2 = n) (hd : decode cc pc = .ok (.iload 6, 2)) (k : zJG G y cc nL ret R Q X a b n (v0 :: v1 :: v2 :: v3 :: v4 :: v5 :: some (.int x) :: t) (.int x :: st) M) : zJG G y cc nL ret R Q X a b pc (v0 :: v1 :: v2 :: v3 :: v4 :: v5 :: some (.int x) :: t) st M := by
  subst hn
  intro la p e s m args below meth c D ad cy A hc H locs ls cells slots hP hS hl ha hb
  obtain ⟨hf, hx, hcb, hr, hml, hown, hts, hlk, het, hA, hi, hai, hK, hks⟩ := id hc
  refine lv_iload hx hcb hd (zLR_at hl (i := 6) (v := .int x) rfl) ?_
  exact k la p e s m args below meth c D ad cy A hc H locs ls cells slots hP hS hl ha hb
theorem zj_iload7 {v0 v1 v2 v3 v4 v5 v6 : Option Value} {x : Int32} (hn : pc + 2 = n) (hd : decode cc pc = .ok (.iload 7, 2)) (k : zJG G y cc nL ret R Q X a b n (v0 :: v1 :: v2 :: v3 :: v4 :: v5 :: v6 :: some (.int x) :: t) (.int x :: st) M) : zJG G y cc nL ret R Q X a b pc (v0 :: v1 :: v2 :: v3 :: v4 :: v5 :: v6 :: some (.int x) :: t) st M := by
  subst hn
  intro la p e s m args below meth c D ad cy A hc H locs ls cells slots hP hS hl ha hb
  obtain ⟨hf, hx, hcb, hr, hml, hown, hts, hlk, het, hA, hi, hai, hK, hks⟩ := id hc
  refine lv_iload hx hcb hd (zLR_at hl (i := 7) (v := .int x) rfl) ?_
  exact k la p e s m args below meth c D ad cy A hc H locs ls cells slots hP hS hl ha hb
theorem zj_iload8 {v0 v1 v2 v3 v4 v5 v6 v7 : Option Value} {x : Int32} (hn : pc + 2 = n) (hd : decode cc pc = .ok (.iload 8, 2)) (k : zJG G y cc nL ret R Q X a b n (v0 :: v1 :: v2 :: v3 :: v4 :: v5 :: v6 :: v7 :: some (.int x) :: t) (.int x :: st) M) : zJG G y cc nL ret R Q X a b pc (v0 :: v1 :: v2 :: v3 :: v4 :: v5 :: v6 :: v7 :: some (.int x) :: t) st M := by
  subst hn
  intro la p e s m args below meth c D ad cy A hc H locs ls cells slots hP hS hl ha hb
  obtain ⟨hf, hx, hcb, hr, hml, hown, hts, hlk, het, hA, hi, hai, hK, hks⟩ := id hc
  refine lv_iload hx hcb hd (zLR_at hl (i := 8) (v := .int x) rfl) ?_
  exact k la p e s m args below meth c D ad cy A hc H locs ls cells slots hP hS hl ha hb
theorem zj_iload9 {v0 v1 v2 v3 v4 v5 v6 v7 v8 : Option Value} {x : Int32} (hn : pc + 2 = n) (hd : decode cc pc = .ok (.iload 9, 2)) (k : zJG G y cc nL ret R Q X a b n (v0 :: v1 :: v2 :: v3 :: v4 :: v5 :: v6 :: v7 :: v8 :: some (.int x) :: t) (.int x :: st) M) : zJG G y cc nL ret R Q X a b pc (v0 :: v1 :: v2 :: v3 :: v4 :: v5 :: v6 :: v7 :: v8 :: some (.int x) :: t) st M := by
  subst hn
  intro la p e s m args below meth c D ad cy A hc H locs ls cells slots hP hS hl ha hb
  obtain ⟨hf, hx, hcb, hr, hml, hown, hts, hlk, het, hA, hi, hai, hK, hks⟩ := id hc
  refine lv_iload hx hcb hd (zLR_at hl (i := 9) (v := .int x) rfl) ?_
  exact k la p e s m args below meth c D ad cy A hc H locs ls cells slots hP hS hl ha hb
theorem zj_iload10 {v0 v1 v2 v3 v4 v5 v6 v7 v8 v9 : Option Value} {x : Int32} (hn : pc + 2 = n) (hd : decode cc pc = .ok (.iload 10, 2)) (k : zJG G y cc nL ret R Q X a b n (v0 :: v1 :: v2 :: v3 :: v4 :: v5 :: v6 :: v7 :: v8 :: v9 :: some (.int x) :: t) (.int x :: st) M) : zJG G y cc nL ret R Q X a b pc (v0 :: v1 :: v2 :: v3 :: v4 :: v5 :: v6 :: v7 :: v8 :: v9 :: some (.int x) :: t) st M := by
  subst hn
  intro la p e s m args below meth c D ad cy A hc H locs ls cells slots hP hS hl ha hb
  obtain ⟨hf, hx, hcb, hr, hml, hown, hts, hlk, het, hA, hi, hai, hK, hks⟩ := id hc
  refine lv_iload hx hcb hd (zLR_at hl (i := 10) (v := .int x) rfl) ?_
  exact k la p e s m args below meth c D ad cy A hc H locs ls cells slots hP hS hl ha hb
theorem zj_iload11 {v0 v1 v2 v3 v4 v5 v6 v7 v8 v9 v10 : Option Value} {x : Int32} (hn : pc + 2 = n) (hd : decode cc pc = .ok (.iload 11, 2)) (k : zJG G y cc nL ret R Q X a b n (v0 :: v1 :: v2 :: v3 :: v4 :: v5 :: v6 :: v7 :: v8 :: v9 :: v10 :: some (.int x) :: t) (.int x :: st) M) : zJG G y cc nL ret R Q X a b pc (v0 :: v1 :: v2 :: v3 :: v4 :: v5 :: v6 :: v7 :: v8 :: v9 :: v10 :: some (.int x) :: t) st M := by
  subst hn
  intro la p e s m args below meth c D ad cy A hc H locs ls cells slots hP hS hl ha hb
  obtain ⟨hf, hx, hcb, hr, hml, hown, hts, hlk, het, hA, hi, hai, hK, hks⟩ := id hc
  refine lv_iload hx hcb hd (zLR_at hl (i := 11) (v := .int x) rfl) ?_
  exact k la p e s m args below meth c D ad cy A hc H locs ls cells slots hP hS hl ha hb
theorem zj_lload0 {x : Int64} (hn : pc + 1 = n) (hd : decode cc pc = .ok (.lload_n 0, 1)) (k : zJG G y cc nL ret R Q X a b n (some (.long x) :: t) (.long x :: st) M) : zJG G y cc nL ret R Q X a b pc (some (.long x) :: t) st M := by
  subst hn
  intro la p e s m args below meth c D ad cy A hc H locs ls cells slots hP hS hl ha hb
  obtain ⟨hf, hx, hcb, hr, hml, hown, hts, hlk, het, hA, hi, hai, hK, hks⟩ := id hc
  refine lv_lload_n hx hcb hd rfl (zLR_at hl (i := 0) (v := .long x) rfl) ?_
  exact k la p e s m args below meth c D ad cy A hc H locs ls cells slots hP hS hl ha hb
theorem zj_lload1 {v0 : Option Value} {x : Int64} (hn : pc + 1 = n) (hd : decode cc pc = .ok (.lload_n 1, 1)) (k : zJG G y cc nL ret R Q X a b n (v0 :: some (.long x) :: t) (.long x :: st) M) : zJG G y cc nL ret R Q X a b pc (v0 :: some (.long x) :: t) st M := by
  subst hn
  intro la p e s m args below meth c D ad cy A hc H locs ls cells slots hP hS hl ha hb
  obtain ⟨hf, hx, hcb, hr, hml, hown, hts, hlk, het, hA, hi, hai, hK, hks⟩ := id hc
  refine lv_lload_n hx hcb hd rfl (zLR_at hl (i := 1) (v := .long x) rfl) ?_
  exact k la p e s m args below meth c D ad cy A hc H locs ls cells slots hP hS hl ha hb
theorem zj_lload2 {v0 v1 : Option Value} {x : Int64} (hn : pc + 1 = n) (hd : decode cc pc = .ok (.lload_n 2, 1)) (k : zJG G y cc nL ret R Q X a b n (v0 :: v1 :: some (.long x) :: t) (.long x :: st) M) : zJG G y cc nL ret R Q X a b pc (v0 :: v1 :: some (.long x) :: t) st M := by
  subst hn
  intro la p e s m args below meth c D ad cy A hc H locs ls cells slots hP hS hl ha hb
  obtain ⟨hf, hx, hcb, hr, hml, hown, hts, hlk, het, hA, hi, hai, hK, hks⟩ := id hc
  refine lv_lload_n hx hcb hd rfl (zLR_at hl (i := 2) (v := .long x) rfl) ?_
  exact k la p e s m args below meth c D ad cy A hc H locs ls cells slots hP hS hl ha hb
theorem zj_lload3 {v0 v1 v2 : Option Value} {x : Int64} (hn : pc + 1 = n) (hd : decode cc pc = .ok (.lload_n 3, 1)) (k : zJG G y cc nL ret R Q X a b n (v0 :: v1 :: v2 :: some (.long x) :: t) (.long x :: st) M) : zJG G y cc nL ret R Q X a b pc (v0 :: v1 :: v2 :: some (.long x) :: t) st M := by
  subst hn
  intro la p e s m args below meth c D ad cy A hc H locs ls cells slots hP hS hl ha hb
  obtain ⟨hf, hx, hcb, hr, hml, hown, hts, hlk, het, hA, hi, hai, hK, hks⟩ := id hc
  refine lv_lload_n hx hcb hd rfl (zLR_at hl (i := 3) (v := .long x) rfl) ?_
  exact k la p e s m args below meth c D ad cy A hc H locs ls cells slots hP hS hl ha hb
theorem zj_lload4 {v0 v1 v2 v3 : Option Value} {x : Int64} (hn : pc + 2 = n) (hd : decode cc pc = .ok (.lload 4, 2)) (k : zJG G y cc nL ret R Q X a b n (v0 :: v1 :: v2 :: v3 :: some (.long x) :: t) (.long x :: st) M) : zJG G y cc nL ret R Q X a b pc (v0 :: v1 :: v2 :: v3 :: some (.long x) :: t) st M := by
  subst hn
  intro la p e s m args below meth c D ad cy A hc H locs ls cells slots hP hS hl ha hb
  obtain ⟨hf, hx, hcb, hr, hml, hown, hts, hlk, het, hA, hi, hai, hK, hks⟩ := id hc
  refine lv_lload hx hcb hd (zLR_at hl (i := 4) (v := .long x) rfl) ?_
  exact k la p e s m args below meth c D ad cy A hc H locs ls cells slots hP hS hl ha hb
theorem zj_lload5 {v0 v1 v2 v3 v4 : Option Value} {x : Int64} (hn : pc + 2 = n) (hd : decode cc pc = .ok (.lload 5, 2)) (k : zJG G y cc nL ret R Q X a b n (v0 :: v1 :: v2 :: v3 :: v4 :: some (.long x) :: t) (.long x :: st) M) : zJG G y cc nL ret R Q X a b pc (v0 :: v1 :: v2 :: v3 :: v4 :: some (.long x) :: t) st M := by
  subst hn
  intro la p e s m args below meth c D ad cy A hc H locs ls cells slots hP hS hl ha hb
  obtain ⟨hf, hx, hcb, hr, hml, hown, hts, hlk, het, hA, hi, hai, hK, hks⟩ := id hc
  refine lv_lload hx hcb hd (zLR_at hl (i := 5) (v := .long x) rfl) ?_
  exact k la p e s m args below meth c D ad cy A hc H locs ls cells slots hP hS hl ha hb
theorem zj_lload6 {v0 v1 v2 v3 v4 v5 : Option Value} {x : Int64} (hn : pc + 2 = n) (hd : decode cc pc = .ok (.lload 6, 2)) (k : zJG G y cc nL ret R Q X a b n (v0 :: v1 :: v2 :: v3 :: v4 :: v5 :: some (.long x) :: t) (.long x :: st) M) : zJG G y cc nL ret R Q X a b pc (v0 :: v1 :: v2 :: v3 :: v4 :: v5 :: some (.long x) :: t) st M := by
  subst hn
  intro la p e s m args below meth c D ad cy A hc H locs ls cells slots hP hS hl ha hb
  obtain ⟨hf, hx, hcb, hr, hml, hown, hts, hlk, het, hA, hi, hai, hK, hks⟩ := id hc
  refine lv_lload hx hcb hd (zLR_at hl (i := 6) (v := .long x) rfl) ?_
  exact k la p e s m args below meth c D ad cy A hc H locs ls cells slots hP hS hl ha hb
theorem zj_lload7 {v0 v1 v2 v3 v4 v5 v6 : Option Value} {x : Int64} (hn : pc + 2 = n) (hd : decode cc pc = .ok (.lload 7, 2)) (k : zJG G y cc nL ret R Q X a b n (v0 :: v1 :: v2 :: v3 :: v4 :: v5 :: v6 :: some (.long x) :: t) (.long x :: st) M) : zJG G y cc nL ret R Q X a b pc (v0 :: v1 :: v2 :: v3 :: v4 :: v5 :: v6 :: some (.long x) :: t) st M := by
  subst hn
  intro la p e s m args below meth c D ad cy A hc H locs ls cells slots hP hS hl ha hb
  obtain ⟨hf, hx, hcb, hr, hml, hown, hts, hlk, het, hA, hi, hai, hK, hks⟩ := id hc
  refine lv_lload hx hcb hd (zLR_at hl (i := 7) (v := .long x) rfl) ?_
  exact k la p e s m args below meth c D ad cy A hc H locs ls cells slots hP hS hl ha hb
theorem zj_lload8 {v0 v1 v2 v3 v4 v5 v6 v7 : Option Value} {x : Int64} (hn : pc + 2 = n) (hd : decode cc pc = .ok (.lload 8, 2)) (k : zJG G y cc nL ret R Q X a b n (v0 :: v1 :: v2 :: v3 :: v4 :: v5 :: v6 :: v7 :: some (.long x) :: t) (.long x :: st) M) : zJG G y cc nL ret R Q X a b pc (v0 :: v1 :: v2 :: v3 :: v4 :: v5 :: v6 :: v7 :: some (.long x) :: t) st M := by
  subst hn
  intro la p e s m args below meth c D ad cy A hc H locs ls cells slots hP hS hl ha hb
  obtain ⟨hf, hx, hcb, hr, hml, hown, hts, hlk, het, hA, hi, hai, hK, hks⟩ := id hc
  refine lv_lload hx hcb hd (zLR_at hl (i := 8) (v := .long x) rfl) ?_
  exact k la p e s m args below meth c D ad cy A hc H locs ls cells slots hP hS hl ha hb
theorem zj_lload9 {v0 v1 v2 v3 v4 v5 v6 v7 v8 : Option Value} {x : Int64} (hn : pc + 2 = n) (hd : decode cc pc = .ok (.lload 9, 2)) (k : zJG G y cc nL ret R Q X a b n (v0 :: v1 :: v2 :: v3 :: v4 :: v5 :: v6 :: v7 :: v8 :: some (.long x) :: t) (.long x :: st) M) : zJG G y cc nL ret R Q X a b pc (v0 :: v1 :: v2 :: v3 :: v4 :: v5 :: v6 :: v7 :: v8 :: some (.long x) :: t) st M := by
  subst hn
  intro la p e s m args below meth c D ad cy A hc H locs ls cells slots hP hS hl ha hb
  obtain ⟨hf, hx, hcb, hr, hml, hown, hts, hlk, het, hA, hi, hai, hK, hks⟩ := id hc
  refine lv_lload hx hcb hd (zLR_at hl (i := 9) (v := .long x) rfl) ?_
  exact k la p e s m args below meth c D ad cy A hc H locs ls cells slots hP hS hl ha hb
theorem zj_lload10 {v0 v1 v2 v3 v4 v5 v6 v7 v8 v9 : Option Value} {x : Int64} (hn : pc + 2 = n) (hd : decode cc pc = .ok (.lload 10, 2)) (k : zJG G y cc nL ret R Q X a b n (v0 :: v1 :: v2 :: v3 :: v4 :: v5 :: v6 :: v7 :: v8 :: v9 :: some (.long x) :: t) (.long x :: st) M) : zJG G y cc nL ret R Q X a b pc (v0 :: v1 :: v2 :: v3 :: v4 :: v5 :: v6 :: v7 :: v8 :: v9 :: some (.long x) :: t) st M := by
  subst hn
  intro la p e s m args below meth c D ad cy A hc H locs ls cells slots hP hS hl ha hb
  obtain ⟨hf, hx, hcb, hr, hml, hown, hts, hlk, het, hA, hi, hai, hK, hks⟩ := id hc
  refine lv_lload hx hcb hd (zLR_at hl (i := 10) (v := .long x) rfl) ?_
  exact k la p e s m args below meth c D ad cy A hc H locs ls cells slots hP hS hl ha hb
theorem zj_lload11 {v0 v1 v2 v3 v4 v5 v6 v7 v8 v9 v10 : Option Value} {x : Int64} (hn : pc + 2 = n) (hd : decode cc pc = .ok (.lload 11, 2)) (k : zJG G y cc nL ret R Q X a b n (v0 :: v1 :: v2 :: v3 :: v4 :: v5 :: v6 :: v7 :: v8 :: v9 :: v10 :: some (.long x) :: t) (.long x :: st) M) : zJG G y cc nL ret R Q X a b pc (v0 :: v1 :: v2 :: v3 :: v4 :: v5 :: v6 :: v7 :: v8 :: v9 :: v10 :: some (.long x) :: t) st M := by
  subst hn
  intro la p e s m args below meth c D ad cy A hc H locs ls cells slots hP hS hl ha hb
  obtain ⟨hf, hx, hcb, hr, hml, hown, hts, hlk, het, hA, hi, hai, hK, hks⟩ := id hc
  refine lv_lload hx hcb hd (zLR_at hl (i := 11) (v := .long x) rfl) ?_
  exact k la p e s m args below meth c D ad cy A hc H locs ls cells slots hP hS hl ha hb
theorem zj_dload0 {x : UInt64} (hn : pc + 1 = n) (hd : decode cc pc = .ok (.dload_n 0, 1)) (k : zJG G y cc nL ret R Q X a b n (some (.double x) :: t) (.double x :: st) M) : zJG G y cc nL ret R Q X a b pc (some (.double x) :: t) st M := by
  subst hn
  intro la p e s m args below meth c D ad cy A hc H locs ls cells slots hP hS hl ha hb
  obtain ⟨hf, hx, hcb, hr, hml, hown, hts, hlk, het, hA, hi, hai, hK, hks⟩ := id hc
  refine lv_dload_n hx hcb hd rfl (zLR_at hl (i := 0) (v := .double x) rfl) ?_
  exact k la p e s m args below meth c D ad cy A hc H locs ls cells slots hP hS hl ha hb
theorem zj_dload1 {v0 : Option Value} {x : UInt64} (hn : pc + 1 = n) (hd : decode cc pc = .ok (.dload_n 1, 1)) (k : zJG G y cc nL ret R Q X a b n (v0 :: some (.double x) :: t) (.double x :: st) M) : zJG G y cc nL ret R Q X a b pc (v0 :: some (.double x) :: t) st M := by
  subst hn
  intro la p e s m args below meth c D ad cy A hc H locs ls cells slots hP hS hl ha hb
  obtain ⟨hf, hx, hcb, hr, hml, hown, hts, hlk, het, hA, hi, hai, hK, hks⟩ := id hc
  refine lv_dload_n hx hcb hd rfl (zLR_at hl (i := 1) (v := .double x) rfl) ?_
  exact k la p e s m args below meth c D ad cy A hc H locs ls cells slots hP hS hl ha hb
theorem zj_dload2 {v0 v1 : Option Value} {x : UInt64} (hn : pc + 1 = n) (hd : decode cc pc = .ok (.dload_n 2, 1)) (k : zJG G y cc nL ret R Q X a b n (v0 :: v1 :: some (.double x) :: t) (.double x :: st) M) : zJG G y cc nL ret R Q X a b pc (v0 :: v1 :: some (.double x) :: t) st M := by
  subst hn
  intro la p e s m args below meth c D ad cy A hc H locs ls cells slots hP hS hl ha hb
  obtain ⟨hf, hx, hcb, hr, hml, hown, hts, hlk, het, hA, hi, hai, hK, hks⟩ := id hc
  refine lv_dload_n hx hcb hd rfl (zLR_at hl (i := 2) (v := .double x) rfl) ?_
  exact k la p e s m args below meth c D ad cy A hc H locs ls cells slots hP hS hl ha hb
theorem zj_dload3 {v0 v1 v2 : Option Value} {x : UInt64} (hn : pc + 1 = n) (hd : decode cc pc = .ok (.dload_n 3, 1)) (k : zJG G y cc nL ret R Q X a b n (v0 :: v1 :: v2 :: some (.double x) :: t) (.double x :: st) M) : zJG G y cc nL ret R Q X a b pc (v0 :: v1 :: v2 :: some (.double x) :: t) st M := by
  subst hn
  intro la p e s m args below meth c D ad cy A hc H locs ls cells slots hP hS hl ha hb
  obtain ⟨hf, hx, hcb, hr, hml, hown, hts, hlk, het, hA, hi, hai, hK, hks⟩ := id hc
  refine lv_dload_n hx hcb hd rfl (zLR_at hl (i := 3) (v := .double x) rfl) ?_
  exact k la p e s m args below meth c D ad cy A hc H locs ls cells slots hP hS hl ha hb
theorem zj_dload4 {v0 v1 v2 v3 : Option Value} {x : UInt64} (hn : pc + 2 = n) (hd : decode cc pc = .ok (.dload 4, 2)) (k : zJG G y cc nL ret R Q X a b n (v0 :: v1 :: v2 :: v3 :: some (.double x) :: t) (.double x :: st) M) : zJG G y cc nL ret R Q X a b pc (v0 :: v1 :: v2 :: v3 :: some (.double x) :: t) st M := by
  subst hn
  intro la p e s m args below meth c D ad cy A hc H locs ls cells slots hP hS hl ha hb
  obtain ⟨hf, hx, hcb, hr, hml, hown, hts, hlk, het, hA, hi, hai, hK, hks⟩ := id hc
  refine lv_dload hx hcb hd (zLR_at hl (i := 4) (v := .double x) rfl) ?_
  exact k la p e s m args below meth c D ad cy A hc H locs ls cells slots hP hS hl ha hb
theorem zj_dload5 {v0 v1 v2 v3 v4 : Option Value} {x : UInt64} (hn : pc + 2 = n) (hd : decode cc pc = .ok (.dload 5, 2)) (k : zJG G y cc nL ret R Q X a b n (v0 :: v1 :: v2 :: v3 :: v4 :: some (.double x) :: t) (.double x :: st) M) : zJG G y cc nL ret R Q X a b pc (v0 :: v1 :: v2 :: v3 :: v4 :: some (.double x) :: t) st M := by
  subst hn
  intro la p e s m args below meth c D ad cy A hc H locs ls cells slots hP hS hl ha hb
  obtain ⟨hf, hx, hcb, hr, hml, hown, hts, hlk, het, hA, hi, hai, hK, hks⟩ := id hc
  refine lv_dload hx hcb hd (zLR_at hl (i := 5) (v := .double x) rfl) ?_
  exact k la p e s m args below meth c D ad cy A hc H locs ls cells slots hP hS hl ha hb
theorem zj_dload6 {v0 v1 v2 v3 v4 v5 : Option Value} {x : UInt64} (hn : pc + 2 = n) (hd : decode cc pc = .ok (.dload 6, 2)) (k : zJG G y cc nL ret R Q X a b n (v0 :: v1 :: v2 :: v3 :: v4 :: v5 :: some (.double x) :: t) (.double x :: st) M) : zJG G y cc nL ret R Q X a b pc (v0 :: v1 :: v2 :: v3 :: v4 :: v5 :: some (.double x) :: t) st M := by
  subst hn
  intro la p e s m args below meth c D ad cy A hc H locs ls cells slots hP hS hl ha hb
  obtain ⟨hf, hx, hcb, hr, hml, hown, hts, hlk, het, hA, hi, hai, hK, hks⟩ := id hc
  refine lv_dload hx hcb hd (zLR_at hl (i := 6) (v := .double x) rfl) ?_
  exact k la p e s m args below meth c D ad cy A hc H locs ls cells slots hP hS hl ha hb
theorem zj_dload7 {v0 v1 v2 v3 v4 v5 v6 : Option Value} {x : UInt64} (hn : pc + 2 = n) (hd : decode cc pc = .ok (.dload 7, 2)) (k : zJG G y cc nL ret R Q X a b n (v0 :: v1 :: v2 :: v3 :: v4 :: v5 :: v6 :: some (.double x) :: t) (.double x :: st) M) : zJG G y cc nL ret R Q X a b pc (v0 :: v1 :: v2 :: v3 :: v4 :: v5 :: v6 :: some (.double x) :: t) st M := by
  subst hn
  intro la p e s m args below meth c D ad cy A hc H locs ls cells slots hP hS hl ha hb
  obtain ⟨hf, hx, hcb, hr, hml, hown, hts, hlk, het, hA, hi, hai, hK, hks⟩ := id hc
  refine lv_dload hx hcb hd (zLR_at hl (i := 7) (v := .double x) rfl) ?_
  exact k la p e s m args below meth c D ad cy A hc H locs ls cells slots hP hS hl ha hb
theorem zj_dload8 {v0 v1 v2 v3 v4 v5 v6 v7 : Option Value} {x : UInt64} (hn : pc + 2 = n) (hd : decode cc pc = .ok (.dload 8, 2)) (k : zJG G y cc nL ret R Q X a b n (v0 :: v1 :: v2 :: v3 :: v4 :: v5 :: v6 :: v7 :: some (.double x) :: t) (.double x :: st) M) : zJG G y cc nL ret R Q X a b pc (v0 :: v1 :: v2 :: v3 :: v4 :: v5 :: v6 :: v7 :: some (.double x) :: t) st M := by
  subst hn
  intro la p e s m args below meth c D ad cy A hc H locs ls cells slots hP hS hl ha hb
  obtain ⟨hf, hx, hcb, hr, hml, hown, hts, hlk, het, hA, hi, hai, hK, hks⟩ := id hc
  refine lv_dload hx hcb hd (zLR_at hl (i := 8) (v := .double x) rfl) ?_
  exact k la p e s m args below meth c D ad cy A hc H locs ls cells slots hP hS hl ha hb
theorem zj_dload9 {v0 v1 v2 v3 v4 v5 v6 v7 v8 : Option Value} {x : UInt64} (hn : pc + 2 = n) (hd : decode cc pc = .ok (.dload 9, 2)) (k : zJG G y cc nL ret R Q X a b n (v0 :: v1 :: v2 :: v3 :: v4 :: v5 :: v6 :: v7 :: v8 :: some (.double x) :: t) (.double x :: st) M) : zJG G y cc nL ret R Q X a b pc (v0 :: v1 :: v2 :: v3 :: v4 :: v5 :: v6 :: v7 :: v8 :: some (.double x) :: t) st M := by
  subst hn
  intro la p e s m args below meth c D ad cy A hc H locs ls cells slots hP hS hl ha hb
  obtain ⟨hf, hx, hcb, hr, hml, hown, hts, hlk, het, hA, hi, hai, hK, hks⟩ := id hc
  refine lv_dload hx hcb hd (zLR_at hl (i := 9) (v := .double x) rfl) ?_
  exact k la p e s m args below meth c D ad cy A hc H locs ls cells slots hP hS hl ha hb
theorem zj_dload10 {v0 v1 v2 v3 v4 v5 v6 v7 v8 v9 : Option Value} {x : UInt64} (hn : pc + 2 = n) (hd : decode cc pc = .ok (.dload 10, 2)) (k : zJG G y cc nL ret R Q X a b n (v0 :: v1 :: v2 :: v3 :: v4 :: v5 :: v6 :: v7 :: v8 :: v9 :: some (.double x) :: t) (.double x :: st) M) : zJG G y cc nL ret R Q X a b pc (v0 :: v1 :: v2 :: v3 :: v4 :: v5 :: v6 :: v7 :: v8 :: v9 :: some (.double x) :: t) st M := by
  subst hn
  intro la p e s m args below meth c D ad cy A hc H locs ls cells slots hP hS hl ha hb
  obtain ⟨hf, hx, hcb, hr, hml, hown, hts, hlk, het, hA, hi, hai, hK, hks⟩ := id hc
  refine lv_dload hx hcb hd (zLR_at hl (i := 10) (v := .double x) rfl) ?_
  exact k la p e s m args below meth c D ad cy A hc H locs ls cells slots hP hS hl ha hb
theorem zj_dload11 {v0 v1 v2 v3 v4 v5 v6 v7 v8 v9 v10 : Option Value} {x : UInt64} (hn : pc + 2 = n) (hd : decode cc pc = .ok (.dload 11, 2)) (k : zJG G y cc nL ret R Q X a b n (v0 :: v1 :: v2 :: v3 :: v4 :: v5 :: v6 :: v7 :: v8 :: v9 :: v10 :: some (.double x) :: t) (.double x :: st) M) : zJG G y cc nL ret R Q X a b pc (v0 :: v1 :: v2 :: v3 :: v4 :: v5 :: v6 :: v7 :: v8 :: v9 :: v10 :: some (.double x) :: t) st M := by
  subst hn
  intro la p e s m args below meth c D ad cy A hc H locs ls cells slots hP hS hl ha hb
  obtain ⟨hf, hx, hcb, hr, hml, hown, hts, hlk, het, hA, hi, hai, hK, hks⟩ := id hc
  refine lv_dload hx hcb hd (zLR_at hl (i := 11) (v := .double x) rfl) ?_
  exact k la p e s m args below meth c D ad cy A hc H locs ls cells slots hP hS hl ha hb
theorem zj_aload0 {x : Nat} (hn : pc + 1 = n) (hd : decode cc pc = .ok (.aload_n 0, 1)) (k : zJG G y cc nL ret R Q X a b n (some (.ref x) :: t) (.ref x :: st) M) : zJG G y cc nL ret R Q X a b pc (some (.ref x) :: t) st M := by
  subst hn
  intro la p e s m args below meth c D ad cy A hc H locs ls cells slots hP hS hl ha hb
  obtain ⟨hf, hx, hcb, hr, hml, hown, hts, hlk, het, hA, hi, hai, hK, hks⟩ := id hc
  refine lv_aload_n hx hcb hd rfl (zLR_at hl (i := 0) (v := .ref x) rfl) ?_
  exact k la p e s m args below meth c D ad cy A hc H locs ls cells slots hP hS hl ha hb
theorem zj_aload1 {v0 : Option Value} {x : Nat} (hn : pc + 1 = n) (hd : decode cc pc = .ok (.aload_n 1, 1)) (k : zJG G y cc nL ret R Q X a b n (v0 :: some (.ref x) :: t) (.ref x :: st) M) : zJG G y cc nL ret R Q X a b pc (v0 :: some (.ref x) :: t) st M := by
  subst hn
  intro la p e s m args below meth c D ad cy A hc H locs ls cells slots hP hS hl ha hb
  obtain ⟨hf, hx, hcb, hr, hml, hown, hts, hlk, het, hA, hi, hai, hK, hks⟩ := id hc
  refine lv_aload_n hx hcb hd rfl (zLR_at hl (i := 1) (v := .ref x) rfl) ?_
  exact k la p e s m args below meth c D ad cy A hc H locs ls cells slots hP hS hl ha hb
theorem zj_aload2 {v0 v1 : Option Value} {x : Nat} (hn : pc + 1 = n) (hd : decode cc pc = .ok (.aload_n 2, 1)) (k : zJG G y cc nL ret R Q X a b n (v0 :: v1 :: some (.ref x) :: t) (.ref x :: st) M) : zJG G y cc nL ret R Q X a b pc (v0 :: v1 :: some (.ref x) :: t) st M := by
  subst hn
  intro la p e s m args below meth c D ad cy A hc H locs ls cells slots hP hS hl ha hb
  obtain ⟨hf, hx, hcb, hr, hml, hown, hts, hlk, het, hA, hi, hai, hK, hks⟩ := id hc
  refine lv_aload_n hx hcb hd rfl (zLR_at hl (i := 2) (v := .ref x) rfl) ?_
  exact k la p e s m args below meth c D ad cy A hc H locs ls cells slots hP hS hl ha hb
theorem zj_aload3 {v0 v1 v2 : Option Value} {x : Nat} (hn : pc + 1 = n) (hd : decode cc pc = .ok (.aload_n 3, 1)) (k : zJG G y cc nL ret R Q X a b n (v0 :: v1 :: v2 :: some (.ref x) :: t) (.ref x :: st) M) : zJG G y cc nL ret R Q X a b pc (v0 :: v1 :: v2 :: some (.ref x) :: t) st M := by
  subst hn
  intro la p e s m args below meth c D ad cy A hc H locs ls cells slots hP hS hl ha hb
  obtain ⟨hf, hx, hcb, hr, hml, hown, hts, hlk, het, hA, hi, hai, hK, hks⟩ := id hc
  refine lv_aload_n hx hcb hd rfl (zLR_at hl (i := 3) (v := .ref x) rfl) ?_
  exact k la p e s m args below meth c D ad cy A hc H locs ls cells slots hP hS hl ha hb
theorem zj_aload4 {v0 v1 v2 v3 : Option Value} {x : Nat} (hn : pc + 2 = n) (hd : decode cc pc = .ok (.aload 4, 2)) (k : zJG G y cc nL ret R Q X a b n (v0 :: v1 :: v2 :: v3 :: some (.ref x) :: t) (.ref x :: st) M) : zJG G y cc nL ret R Q X a b pc (v0 :: v1 :: v2 :: v3 :: some (.ref x) :: t) st M := by
  subst hn
  intro la p e s m args below meth c D ad cy A hc H locs ls cells slots hP hS hl ha hb
  obtain ⟨hf, hx, hcb, hr, hml, hown, hts, hlk, het, hA, hi, hai, hK, hks⟩ := id hc
  refine lv_aload hx hcb hd (zLR_at hl (i := 4) (v := .ref x) rfl) ?_
  exact k la p e s m args below meth c D ad cy A hc H locs ls cells slots hP hS hl ha hb
theorem zj_aload5 {v0 v1 v2 v3 v4 : Option Value} {x : Nat} (hn : pc + 2 = n) (hd : decode cc pc = .ok (.aload 5, 2)) (k : zJG G y cc nL ret R Q X a b n (v0 :: v1 :: v2 :: v3 :: v4 :: some (.ref x) :: t) (.ref x :: st) M) : zJG G y cc nL ret R Q X a b pc (v0 :: v1 :: v2 :: v3 :: v4 :: some (.ref x) :: t) st M := by
  subst hn
  intro la p e s m args below meth c D ad cy A hc H locs ls cells slots hP hS hl ha hb
  obtain ⟨hf, hx, hcb, hr, hml, hown, hts, hlk, het, hA, hi, hai, hK, hks⟩ := id hc
  refine lv_aload hx hcb hd (zLR_at hl (i := 5) (v := .ref x) rfl) ?_
  exact k la p e s m args below meth c D ad cy A hc H locs ls cells slots hP hS hl ha hb
theorem zj_aload6 {v0 v1 v2 v3 v4 v5 : Option Value} {x : Nat} (hn : pc + 2 = n) (hd : decode cc pc = .ok (.aload 6, 2)) (k : zJG G y cc nL ret R Q X a b n (v0 :: v1 :: v2 :: v3 :: v4 :: v5 :: some (.ref x) :: t) (.ref x :: st) M) : zJG G y cc nL ret R Q X a b pc (v0 :: v1 :: v2 :: v3 :: v4 :: v5 :: some (.ref x) :: t) st M := by
  subst hn
  intro la p e s m args below meth c D ad cy A hc H locs ls cells slots hP hS hl ha hb
  obtain ⟨hf, hx, hcb, hr, hml, hown, hts, hlk, het, hA, hi, hai, hK, hks⟩ := id hc
  refine lv_aload hx hcb hd (zLR_at hl (i := 6) (v := .ref x) rfl) ?_
  exact k la p e s m args below meth c D ad cy A hc H locs ls cells slots hP hS hl ha hb
theorem zj_aload7 {v0 v1 v2 v3 v4 v5 v6 : Option Value} {x : Nat} (hn : pc + 2 = n) (hd : decode cc pc = .ok (.aload 7, 2)) (k : zJG G y cc nL ret R Q X a b n (v0 :: v1 :: v2 :: v3 :: v4 :: v5 :: v6 :: some (.ref x) :: t) (.ref x :: st) M) : zJG G y cc nL ret R Q X a b pc (v0 :: v1 :: v2 :: v3 :: v4 :: v5 :: v6 :: some (.ref x) :: t) st M := by
  subst hn
  intro la p e s m args below meth c D ad cy A hc H locs ls cells slots hP hS hl ha hb
  obtain ⟨hf, hx, hcb, hr, hml, hown, hts, hlk, het, hA, hi, hai, hK, hks⟩ := id hc
  refine lv_aload hx hcb hd (zLR_at hl (i := 7) (v := .ref x) rfl) ?_
  exact k la p e s m args below meth c D ad cy A hc H locs ls cells slots hP hS hl ha hb
theorem zj_aload8 {v0 v1 v2 v3 v4 v5 v6 v7 : Option Value} {x : Nat} (hn : pc + 2 = n) (hd : decode cc pc = .ok (.aload 8, 2)) (k : zJG G y cc nL ret R Q X a b n (v0 :: v1 :: v2 :: v3 :: v4 :: v5 :: v6 :: v7 :: some (.ref x) :: t) (.ref x :: st) M) : zJG G y cc nL ret R Q X a b pc (v0 :: v1 :: v2 :: v3 :: v4 :: v5 :: v6 :: v7 :: some (.ref x) :: t) st M := by
  subst hn
  intro la p e s m args below meth c D ad cy A hc H locs ls cells slots hP hS hl ha hb
  obtain ⟨hf, hx, hcb, hr, hml, hown, hts, hlk, het, hA, hi, hai, hK, hks⟩ := id hc
  refine lv_aload hx hcb hd (zLR_at hl (i := 8) (v := .ref x) rfl) ?_
  exact k la p e s m args below meth c D ad cy A hc H locs ls cells slots hP hS hl ha hb
theorem zj_aload9 {v0 v1 v2 v3 v4 v5 v6 v7 v8 : Option Value} {x : Nat} (hn : pc + 2 = n) (hd : decode cc pc = .ok (.aload 9, 2)) (k : zJG G y cc nL ret R Q X a b n (v0 :: v1 :: v2 :: v3 :: v4 :: v5 :: v6 :: v7 :: v8 :: some (.ref x) :: t) (.ref x :: st) M) : zJG G y cc nL ret R Q X a b pc (v0 :: v1 :: v2 :: v3 :: v4 :: v5 :: v6 :: v7 :: v8 :: some (.ref x) :: t) st M := by
  subst hn
  intro la p e s m args below meth c D ad cy A hc H locs ls cells slots hP hS hl ha hb
  obtain ⟨hf, hx, hcb, hr, hml, hown, hts, hlk, het, hA, hi, hai, hK, hks⟩ := id hc
  refine lv_aload hx hcb hd (zLR_at hl (i := 9) (v := .ref x) rfl) ?_
  exact k la p e s m args below meth c D ad cy A hc H locs ls cells slots hP hS hl ha hb
theorem zj_aload10 {v0 v1 v2 v3 v4 v5 v6 v7 v8 v9 : Option Value} {x : Nat} (hn : pc + 2 = n) (hd : decode cc pc = .ok (.aload 10, 2)) (k : zJG G y cc nL ret R Q X a b n (v0 :: v1 :: v2 :: v3 :: v4 :: v5 :: v6 :: v7 :: v8 :: v9 :: some (.ref x) :: t) (.ref x :: st) M) : zJG G y cc nL ret R Q X a b pc (v0 :: v1 :: v2 :: v3 :: v4 :: v5 :: v6 :: v7 :: v8 :: v9 :: some (.ref x) :: t) st M := by
  subst hn
  intro la p e s m args below meth c D ad cy A hc H locs ls cells slots hP hS hl ha hb
  obtain ⟨hf, hx, hcb, hr, hml, hown, hts, hlk, het, hA, hi, hai, hK, hks⟩ := id hc
  refine lv_aload hx hcb hd (zLR_at hl (i := 10) (v := .ref x) rfl) ?_
  exact k la p e s m args below meth c D ad cy A hc H locs ls cells slots hP hS hl ha hb
theorem zj_aload11 {v0 v1 v2 v3 v4 v5 v6 v7 v8 v9 v10 : Option Value} {x : Nat} (hn : pc + 2 = n) (hd : decode cc pc = .ok (.aload 11, 2)) (k : zJG G y cc nL ret R Q X a b n (v0 :: v1 :: v2 :: v3 :: v4 :: v5 :: v6 :: v7 :: v8 :: v9 :: v10 :: some (.ref x) :: t) (.ref x :: st) M) : zJG G y cc nL ret R Q X a b pc (v0 :: v1 :: v2 :: v3 :: v4 :: v5 :: v6 :: v7 :: v8 :: v9 :: v10 :: some (.ref x) :: t) st M := by
  subst hn
  intro la p e s m args below meth c D ad cy A hc H locs ls cells slots hP hS hl ha hb
  obtain ⟨hf, hx, hcb, hr, hml, hown, hts, hlk, het, hA, hi, hai, hK, hks⟩ := id hc
  refine lv_aload hx hcb hd (zLR_at hl (i := 11) (v := .ref x) rfl) ?_
  exact k la p e s m args below meth c D ad cy A hc H locs ls cells slots hP hS hl ha hb
theorem zj_istore0 {o : Option Value} {x : Int32} (hn : pc + 1 = n) (hd : decode cc pc = .ok (.istore_n 0, 1)) (hb9 : 0 < nL) (k : zJG G y cc nL ret R Q X a b n (some (.int x) :: t) st M) : zJG G y cc nL ret R Q X a b pc (o :: t) (.int x :: st) M := by
  subst hn
  intro la p e s m args below meth c D ad cy A hc H locs ls cells slots hP hS hl ha hb
  obtain ⟨hf, hx, hcb, hr, hml, hown, hts, hlk, het, hA, hi, hai, hK, hks⟩ := id hc
  refine lv_istore_n hx hcb hd rfl (zLR_has hl) hb9 rfl (fun ls' h' => ?_)
  exact k la p e s m args below meth c D ad cy A hc H locs ls' cells slots hP hS (zLR_put1 (l := o :: t) (v := .int x) h' (fun j u h _ => absurd h (by omega))) ha hb
theorem zj_istore1 {v0 : Option Value} {o : Option Value} {x : Int32} (hn : pc + 1 = n) (hd : decode cc pc = .ok (.istore_n 1, 1)) (hp : zB2 v0 = false) (hb9 : 1 < nL) (k : zJG G y cc nL ret R Q X a b n (v0 :: some (.int x) :: t) st M) : zJG G y cc nL ret R Q X a b pc (v0 :: o :: t) (.int x :: st) M := by
  subst hn
  intro la p e s m args below meth c D ad cy A hc H locs ls cells slots hP hS hl ha hb
  obtain ⟨hf, hx, hcb, hr, hml, hown, hts, hlk, het, hA, hi, hai, hK, hks⟩ := id hc
  refine lv_istore_n hx hcb hd rfl (zLR_has hl) hb9 rfl (fun ls' h' => ?_)
  exact k la p e s m args below meth c D ad cy A hc H locs ls' cells slots hP hS (zLR_put1 (l := v0 :: o :: t) (v := .int x) h' (fun j u h h2 => by cases (show j = 0 by omega); exact zB2_cat hp (Option.some.inj h2))) ha hb
theorem zj_istore2 {v0 v1 : Option Value} {o : Option Value} {x : Int32} (hn : pc + 1 = n) (hd : decode cc pc = .ok (.istore_n 2, 1)) (hp : zB2 v1 = false) (hb9 : 2 < nL) (k : zJG G y cc nL ret R Q X a b n (v0 :: v1 :: some (.int x) :: t) st M) : zJG G y cc nL ret R Q X a b pc (v0 :: v1 :: o :: t) (.int x :: st) M := by
  subst hn
  intro la p e s m args below meth c D ad cy A hc H locs ls cells slots hP hS hl ha hb
  obtain ⟨hf, hx, hcb, hr, hml, hown, hts, hlk, het, hA, hi, hai, hK, hks⟩ := id hc
  refine lv_istore_n hx hcb hd rfl (zLR_has hl) hb9 rfl (fun ls' h' => ?_)
  exact k la p e s m args below meth c D ad cy A hc H locs ls' cells slots hP hS (zLR_put1 (l := v0 :: v1 :: o :: t) (v := .int x) h' (fun j u h h2 => by cases (show j = 1 by omega); exact zB2_cat hp (Option.some.inj h2))) ha hb
theorem zj_istore3 {v0 v1 v2 : Option Value} {o : Option Value} {x : Int32} (hn : pc + 1 = n) (hd : decode cc pc = .ok (.istore_n 3, 1)) (hp : zB2 v2 = false) (hb9 : 3 < nL) (k : zJG G y cc nL ret R Q X a b n (v0 :: v1 :: v2 :: some (.int x) :: t) st M) : zJG G y cc nL ret R Q X a b pc (v0 :: v1 :: v2 :: o :: t) (.int x :: st) M := by
  subst hn
  intro la p e s m args below meth c D ad cy A hc H locs ls cells slots hP hS hl ha hb
  obtain ⟨hf, hx, hcb, hr, hml, hown, hts, hlk, het, hA, hi, hai, hK, hks⟩ := id hc
  refine lv_istore_n hx hcb hd rfl (zLR_has hl) hb9 rfl (fun ls' h' => ?_)
  exact k la p e s m args below meth c D ad cy A hc H locs ls' cells slots hP hS (zLR_put1 (l := v0 :: v1 :: v2 :: o :: t) (v := .int x) h' (fun j u h h2 => by cases (show j = 2 by omega); exact zB2_cat hp (Option.some.inj h2))) ha hb
theorem zj_istore4 {v0 v1 v2 v3 : Option Value} {o : Option Value} {x : Int32} (hn : pc + 2 = n) (hd : decode cc pc = .ok (.istore 4, 2)) (hp : zB2 v3 = false) (hb9 : 4 < nL) (k : zJG G y cc nL ret R Q X a b n (v0 :: v1 :: v2 :: v3 :: some (.int x) :: t) st M) : zJG G y cc nL ret R Q X a b pc (v0 :: v1 :: v2 :: v3 :: o :: t) (.int x :: st) M := by
  subst hn
  intro la p e s m args below meth c D ad cy A hc H locs ls cells slots hP hS hl ha hb
  obtain ⟨hf, hx, hcb, hr, hml, hown, hts, hlk, het, hA, hi, hai, hK, hks⟩ := id hc
  refine lv_istore hx hcb hd (zLR_has hl) hb9 rfl (fun ls' h' => ?_)
  exact k la p e s m args below meth c D ad cy A hc H locs ls' cells slots hP hS (zLR_put1 (l := v0 :: v1 :: v2 :: v3 :: o :: t) (v := .int x) h' (fun j u h h2 => by cases (show j = 3 by omega); exact zB2_cat hp (Option.some.inj h2))) ha hb
theorem zj_istore5 {v0 v1 v2 v3 v4 : Option Value} {o : Option Value} {x : Int32} (hn : pc + 2 = n) (hd : decode cc pc = .ok (.istore 5, 2)) (hp : zB2 v4 = false) (hb9 : 5 < nL) (k : zJG G y cc nL ret R Q X a b n (v0 :: v1 :: v2 :: v3 :: v4 :: some (.int x) :: t) st M) : zJG G y cc nL ret R Q X a b pc (v0 :: v1 :: v2 :: v3 :: v4 :: o :: t) (.int x :: st) M := by
  subst hn
  intro la p e s m args below meth c D ad cy A hc H locs ls cells slots hP hS hl ha hb
  obtain ⟨hf, hx, hcb, hr, hml, hown, hts, hlk, het, hA, hi, hai, hK, hks⟩ := id hc
  refine lv_istore hx hcb hd (zLR_has hl) hb9 rfl (fun ls' h' => ?_)
  exact k la p e s m args below meth c D ad cy A hc H locs ls' cells slots hP hS (zLR_put1 (l := v0 :: v1 :: v2 :: v3 :: v4 :: o :: t) (v := .int x) h' (fun j u h h2 => by cases (show j = 4 by omega); exact zB2_cat hp (Option.some.inj h2))) ha hb
theorem zj_istore6 {v0 v1 v2 v3 v4 v5 : Option Value} {o : Option Value} {x : Int32} (hn : pc + 2 = n) (hd : decode cc pc = .ok (.istore 6, 2)) (hp : zB2 v5 = false) (hb9 : 6 < nL) (k : zJG G y cc nL ret R Q X a b n (v0 :: v1 :: v2 :: v3 :: v4 :: v5 :: some (.int x) :: t) st M) : zJG G y cc nL ret R Q X a b pc (v0 :: v1 :: v2 :: v3 :: v4 :: v5 :: o :: t) (.int x :: st) M := by
  subst hn
  intro la p e s m args below meth c D ad cy A hc H locs ls cells slots hP hS hl ha hb
  obtain ⟨hf, hx, hcb, hr, hml, hown, hts, hlk, het, hA, hi, hai, hK, hks⟩ := id hc
  refine lv_istore hx hcb hd (zLR_has hl) hb9 rfl (fun ls' h' => ?_)
  exact k la p e s m args below meth c D ad cy A hc H locs ls' cells slots hP hS (zLR_put1 (l := v0 :: v1 :: v2 :: v3 :: v4 :: v5 :: o :: t) (v := .int x) h' (fun j u h h2 => by cases (show j = 5 by omega); exact zB2_cat hp (Option.some.inj h2))) ha hb
theorem zj_istore7 {v0 v1 v2 v3 v4 v5 v6 : Option Value} {o : Option Value} {x : Int32} (hn : pc + 2 = n) (hd : decode cc pc = .ok (.istore 7, 2)) (hp : zB2 v6 = false) (hb9 : 7 < nL) (k : zJG G y cc nL ret R Q X a b n (v0 :: v1 :: v2 :: v3 :: v4 :: v5 :: v6 :: some (.int x) :: t) st M) : zJG G y cc nL ret R Q X a b pc (v0 :: v1 :: v2 :: v3 :: v4 :: v5 :: v6 :: o :: t) (.int x :: st) M := by
  subst hn
  intro la p e s m args below meth c D ad cy A hc H locs ls cells slots hP hS hl ha hb
  obtain ⟨hf, hx, hcb, hr, hml, hown, hts, hlk, het, hA, hi, hai, hK, hks⟩ := id hc
  refine lv_istore hx hcb hd (zLR_has hl) hb9 rfl (fun ls' h' => ?_)
  exact k la p e s m args below meth c D ad cy A hc H locs ls' cells slots hP hS (zLR_put1 (l := v0 :: v1 :: v2 :: v3 :: v4 :: v5 :: v6 :: o :: t) (v := .int x) h' (fun j u h h2 => by cases (show j = 6 by omega); exact zB2_cat hp (Option.some.inj h2))) ha hb
theorem zj_istore8 {v0 v1 v2 v3 v4 v5 v6 v7 : Option Value} {o : Option Value} {x : Int32} (hn : pc + 2 = n) (hd : decode cc pc = .ok (.istore 8, 2)) (hp : zB2 v7 = false) (hb9 : 8 < nL) (k : zJG G y cc nL ret R Q X a b n (v0 :: v1 :: v2 :: v3 :: v4 :: v5 :: v6 :: v7 :: some (.int x) :: t) st M) : zJG G y cc nL ret R Q X a b pc (v0 :: v1 :: v2 :: v3 :: v4 :: v5 :: v6 :: v7 :: o :: t) (.int x :: st) M := by
  subst hn
  intro la p e s m args below meth c D ad cy A hc H locs ls cells slots hP hS hl ha hb
  obtain ⟨hf, hx, hcb, hr, hml, hown, hts, hlk, het, hA, hi, hai, hK, hks⟩ := id hc
  refine lv_istore hx hcb hd (zLR_has hl) hb9 rfl (fun ls' h' => ?_)
  exact k la p e s m args below meth c D ad cy A hc H locs ls' cells slots hP hS (zLR_put1 (l := v0 :: v1 :: v2 :: v3 :: v4 :: v5 :: v6 :: v7 :: o :: t) (v := .int x) h' (fun j u h h2 => by cases (show j = 7 by omega); exact zB2_cat hp (Option.some.inj h2))) ha hb
theorem zj_istore9 {v0 v1 v2 v3 v4 v5 v6 v7 v8 : Option Value} {o : Option Value} {x : Int32} (hn : pc + 2 = n) (hd : decode cc pc = .ok (.istore 9, 2)) (hp : zB2 v8 = false) (hb9 : 9 < nL) (k : zJG G y cc nL ret R Q X a b n (v0 :: v1 :: v2 :: v3 :: v4 :: v5 :: v6 :: v7 :: v8 :: some (.int x) :: t) st M) : zJG G y cc nL ret R Q X a b pc (v0 :: v1 :: v2 :: v3 :: v4 :: v5 :: v6 :: v7 :: v8 :: o :: t) (.int x :: st) M := by
  subst hn
  intro la p e s m args below meth c D ad cy A hc H locs ls cells slots hP hS hl ha hb
  obtain ⟨hf, hx, hcb, hr, hml, hown, hts, hlk, het, hA, hi, hai, hK, hks⟩ := id hc
  refine lv_istore hx hcb hd (zLR_has hl) hb9 rfl (fun ls' h' => ?_)
  exact k la p e s m args below meth c D ad cy A hc H locs ls' cells slots hP hS (zLR_put1 (l := v0 :: v1 :: v2 :: v3 :: v4 :: v5 :: v6 :: v7 :: v8 :: o :: t) (v := .int x) h' (fun j u h h2 => by cases (show j = 8 by omega); exact zB2_cat hp (Option.some.inj h2))) ha hb
theorem zj_istore10 {v0 v1 v2 v3 v4 v5 v6 v7 v8 v9 : Option Value} {o : Option Value} {x : Int32} (hn : pc + 2 = n) (hd : decode cc pc = .ok (.istore 10, 2)) (hp : zB2 v9 = false) (hb9 : 10 < nL) (k : zJG G y cc nL ret R Q X a b n (v0 :: v1 :: v2 :: v3 :: v4 :: v5 :: v6 :: v7 :: v8 :: v9 :: some (.int x) :: t) st M) : zJG G y cc nL ret R Q X a b pc (v0 :: v1 :: v2 :: v3 :: v4 :: v5 :: v6 :: v7 :: v8 :: v9 :: o :: t) (.int x :: st) M := by
  subst hn
  intro la p e s m args below meth c D ad cy A hc H locs ls cells slots hP hS hl ha hb
  obtain ⟨hf, hx, hcb, hr, hml, hown, hts, hlk, het, hA, hi, hai, hK, hks⟩ := id hc
  refine lv_istore hx hcb hd (zLR_has hl) hb9 rfl (fun ls' h' => ?_)
  exact k la p e s m args below meth c D ad cy A hc H locs ls' cells slots hP hS (zLR_put1 (l := v0 :: v1 :: v2 :: v3 :: v4 :: v5 :: v6 :: v7 :: v8 :: v9 :: o :: t) (v := .int x) h' (fun j u h h2 => by cases (show j = 9 by omega); exact zB2_cat hp (Option.some.inj h2))) ha hb
theorem zj_istore11 {v0 v1 v2 v3 v4 v5 v6 v7 v8 v9 v10 : Option Value} {o : Option Value} {x : Int32} (hn : pc + 2 = n) (hd : decode cc pc = .ok (.istore 11, 2)) (hp : zB2 v10 = false) (hb9 : 11 < nL) (k : zJG G y cc nL ret R Q X a b n (v0 :: v1 :: v2 :: v3 :: v4 :: v5 :: v6 :: v7 :: v8 :: v9 :: v10 :: some (.int x) :: t) st M) : zJG G y cc nL ret R Q X a b pc (v0 :: v1 :: v2 :: v3 :: v4 :: v5 :: v6 :: v7 :: v8 :: v9 :: v10 :: o :: t) (.int x :: st) M := by
  subst hn
  intro la p e s m args below meth c D ad cy A hc H locs ls cells slots hP hS hl ha hb
  obtain ⟨hf, hx, hcb, hr, hml, hown, hts, hlk, het, hA, hi, hai, hK, hks⟩ := id hc
  refine lv_istore hx hcb hd (zLR_has hl) hb9 rfl (fun ls' h' => ?_)
  exact k la p e s m args below meth c D ad cy A hc H locs ls' cells slots hP hS (zLR_put1 (l := v0 :: v1 :: v2 :: v3 :: v4 :: v5 :: v6 :: v7 :: v8 :: v9 :: v10 :: o :: t) (v := .int x) h' (fun j u h h2 => by cases (show j = 10 by omega); exact zB2_cat hp (Option.some.inj h2))) ha hb
theorem zj_astore0 {o : Option Value} {x : Nat} (hn : pc + 1 = n) (hd : decode cc pc = .ok (.astore_n 0, 1)) (hb9 : 0 < nL) (k : zJG G y cc nL ret R Q X a b n (some (.ref x) :: t) st M) : zJG G y cc nL ret R Q X a b pc (o :: t) (.ref x :: st) M := by
  subst hn
  intro la p e s m args below meth c D ad cy A hc H locs ls cells slots hP hS hl ha hb
  obtain ⟨hf, hx, hcb, hr, hml, hown, hts, hlk, het, hA, hi, hai, hK, hks⟩ := id hc
  refine lv_astore_n hx hcb hd rfl (zLR_has hl) hb9 rfl (fun ls' h' => ?_)
  exact k la p e s m args below meth c D ad cy A hc H locs ls' cells slots hP hS (zLR_put1 (l := o :: t) (v := .ref x) h' (fun j u h _ => absurd h (by omega))) ha hb
theorem zj_astore1 {v0 : Option Value} {o : Option Value} {x : Nat} (hn : pc + 1 = n) (hd : decode cc pc = .ok (.astore_n 1, 1)) (hp : zB2 v0 = false) (hb9 : 1 < nL) (k : zJG G y cc nL ret R Q X a b n (v0 :: some (.ref x) :: t) st M) : zJG G y cc nL ret R Q X a b pc (v0 :: o :: t) (.ref x :: st) M := by
  subst hn
  intro la p e s m args below meth c D ad cy A hc H locs ls cells slots hP hS hl ha hb
  obtain ⟨hf, hx, hcb, hr, hml, hown, hts, hlk, het, hA, hi, hai, hK, hks⟩ := id hc
  refine lv_astore_n hx hcb hd rfl (zLR_has hl) hb9 rfl (fun ls' h' => ?_)
  exact k la p e s m args below meth c D ad cy A hc H locs ls' cells slots hP hS (zLR_put1 (l := v0 :: o :: t) (v := .ref x) h' (fun j u h h2 => by cases (show j = 0 by omega); exact zB2_cat hp (Option.some.inj h2))) ha hb
theorem zj_astore2 {v0 v1 : Option Value} {o : Option Value} {x : Nat} (hn : pc + 1 = n) (hd : decode cc pc = .ok (.astore_n 2, 1)) (hp : zB2 v1 = false) (hb9 : 2 < nL) (k : zJG G y cc nL ret R Q X a b n (v0 :: v1 :: some (.ref x) :: t) st M) : zJG G y cc nL ret R Q X a b pc (v0 :: v1 :: o :: t) (.ref x :: st) M := by
  subst hn
  intro la p e s m args below meth c D ad cy A hc H locs ls cells slots hP hS hl ha hb
  obtain ⟨hf, hx, hcb, hr, hml, hown, hts, hlk, het, hA, hi, hai, hK, hks⟩ := id hc
  refine lv_astore_n hx hcb hd rfl (zLR_has hl) hb9 rfl (fun ls' h' => ?_)
  exact k la p e s m args below meth c D ad cy A hc H locs ls' cells slots hP hS (zLR_put1 (l := v0 :: v1 :: o :: t) (v := .ref x) h' (fun j u h h2 => by cases (show j = 1 by omega); exact zB2_cat hp (Option.some.inj h2))) ha hb
theorem zj_astore3 {v0 v1 v2 : Option Value} {o : Option Value} {x : Nat} (hn : pc + 1 = n) (hd : decode cc pc = .ok (.astore_n 3, 1)) (hp : zB2 v2 = false) (hb9 : 3 < nL) (k : zJG G y cc nL ret R Q X a b n (v0 :: v1 :: v2 :: some (.ref x) :: t) st M) : zJG G y cc nL ret R Q X a b pc (v0 :: v1 :: v2 :: o :: t) (.ref x :: st) M := by
  subst hn
  intro la p e s m args below meth c D ad cy A hc H locs ls cells slots hP hS hl ha hb
  obtain ⟨hf, hx, hcb, hr, hml, hown, hts, hlk, het, hA, hi, hai, hK, hks⟩ := id hc
  refine lv_astore_n hx hcb hd rfl (zLR_has hl) hb9 rfl (fun ls' h' => ?_)
  exact k la p e s m args below meth c D ad cy A hc H locs ls' cells slots hP hS (zLR_put1 (l := v0 :: v1 :: v2 :: o :: t) (v := .ref x) h' (fun j u h h2 => by cases (show j = 2 by omega); exact zB2_cat hp (Option.some.inj h2))) ha hb
theorem zj_astore4 {v0 v1 v2 v3 : Option Value} {o : Option Value} {x : Nat} (hn : pc + 2 = n) (hd : decode cc pc = .ok (.astore 4, 2)) (hp : zB2 v3 = false) (hb9 : 4 < nL) (k : zJG G y cc nL ret R Q X a b n (v0 :: v1 :: v2 :: v3 :: some (.ref x) :: t) st M) : zJG G y cc nL ret R Q X a b pc (v0 :: v1 :: v2 :: v3 :: o :: t) (.ref x :: st) M := by
  subst hn
  intro la p e s m args below meth c D ad cy A hc H locs ls cells slots hP hS hl ha hb
  obtain ⟨hf, hx, hcb, hr, hml, hown, hts, hlk, het, hA, hi, hai, hK, hks⟩ := id hc
  refine lv_astore hx hcb hd (zLR_has hl) hb9 rfl (fun ls' h' => ?_)
  exact k la p e s m args below meth c D ad cy A hc H locs ls' cells slots hP hS (zLR_put1 (l := v0 :: v1 :: v2 :: v3 :: o :: t) (v := .ref x) h' (fun j u h h2 => by cases (show j = 3 by omega); exact zB2_cat hp (Option.some.inj h2))) ha hb
theorem zj_astore5 {v0 v1 v2 v3 v4 : Option Value} {o : Option Value} {x : Nat} (hn : pc + 2 = n) (hd : decode cc pc = .ok (.astore 5, 2)) (hp : zB2 v4 = false) (hb9 : 5 < nL) (k : zJG G y cc nL ret R Q X a b n (v0 :: v1 :: v2 :: v3 :: v4 :: some (.ref x) :: t) st M) : zJG G y cc nL ret R Q X a b pc (v0 :: v1 :: v2 :: v3 :: v4 :: o :: t) (.ref x :: st) M := by
  subst hn
  intro la p e s m args below meth c D ad cy A hc H locs ls cells slots hP hS hl ha hb
  obtain ⟨hf, hx, hcb, hr, hml, hown, hts, hlk, het, hA, hi, hai, hK, hks⟩ := id hc
  refine lv_astore hx hcb hd (zLR_has hl) hb9 rfl (fun ls' h' => ?_)
  exact k la p e s m args below meth c D ad cy A hc H locs ls' cells slots hP hS (zLR_put1 (l := v0 :: v1 :: v2 :: v3 :: v4 :: o :: t) (v := .ref x) h' (fun j u h h2 => by cases (show j = 4 by omega); exact zB2_cat hp (Option.some.inj h2))) ha hb
theorem zj_astore6 {v0 v1 v2 v3 v4 v5 : Option Value} {o : Option Value} {x : Nat} (hn : pc + 2 = n) (hd : decode cc pc = .ok (.astore 6, 2)) (hp : zB2 v5 = false) (hb9 : 6 < nL) (k : zJG G y cc nL ret R Q X a b n (v0 :: v1 :: v2 :: v3 :: v4 :: v5 :: some (.ref x) :: t) st M) : zJG G y cc nL ret R Q X a b pc (v0 :: v1 :: v2 :: v3 :: v4 :: v5 :: o :: t) (.ref x :: st) M := by
  subst hn
  intro la p e s m args below meth c D ad cy A hc H locs ls cells slots hP hS hl ha hb
  obtain ⟨hf, hx, hcb, hr, hml, hown, hts, hlk, het, hA, hi, hai, hK, hks⟩ := id hc
  refine lv_astore hx hcb hd (zLR_has hl) hb9 rfl (fun ls' h' => ?_)
  exact k la p e s m args below meth c D ad cy A hc H locs ls' cells slots hP hS (zLR_put1 (l := v0 :: v1 :: v2 :: v3 :: v4 :: v5 :: o :: t) (v := .ref x) h' (fun j u h h2 => by cases (show j = 5 by omega); exact zB2_cat hp (Option.some.inj h2))) ha hb
theorem zj_astore7 {v0 v1 v2 v3 v4 v5 v6 : Option Value} {o : Option Value} {x : Nat} (hn : pc + 2 = n) (hd : decode cc pc = .ok (.astore 7, 2)) (hp : zB2 v6 = false) (hb9 : 7 < nL) (k : zJG G y cc nL ret R Q X a b n (v0 :: v1 :: v2 :: v3 :: v4 :: v5 :: v6 :: some (.ref x) :: t) st M) : zJG G y cc nL ret R Q X a b pc (v0 :: v1 :: v2 :: v3 :: v4 :: v5 :: v6 :: o :: t) (.ref x :: st) M := by
  subst hn
  intro la p e s m args below meth c D ad cy A hc H locs ls cells slots hP hS hl ha hb
  obtain ⟨hf, hx, hcb, hr, hml, hown, hts, hlk, het, hA, hi, hai, hK, hks⟩ := id hc
  refine lv_astore hx hcb hd (zLR_has hl) hb9 rfl (fun ls' h' => ?_)
  exact k la p e s m args below meth c D ad cy A hc H locs ls' cells slots hP hS (zLR_put1 (l := v0 :: v1 :: v2 :: v3 :: v4 :: v5 :: v6 :: o :: t) (v := .ref x) h' (fun j u h h2 => by cases (show j = 6 by omega); exact zB2_cat hp (Option.some.inj h2))) ha hb
theorem zj_astore8 {v0 v1 v2 v3 v4 v5 v6 v7 : Option Value} {o : Option Value} {x : Nat} (hn : pc + 2 = n) (hd : decode cc pc = .ok (.astore 8, 2)) (hp : zB2 v7 = false) (hb9 : 8 < nL) (k : zJG G y cc nL ret R Q X a b n (v0 :: v1 :: v2 :: v3 :: v4 :: v5 :: v6 :: v7 :: some (.ref x) :: t) st M) : zJG G y cc nL ret R Q X a b pc (v0 :: v1 :: v2 :: v3 :: v4 :: v5 :: v6 :: v7 :: o :: t) (.ref x :: st) M := by
  subst hn
  intro la p e s m args below meth c D ad cy A hc H locs ls cells slots hP hS hl ha hb
  obtain ⟨hf, hx, hcb, hr, hml, hown, hts, hlk, het, hA, hi, hai, hK, hks⟩ := id hc
  refine lv_astore hx hcb hd (zLR_has hl) hb9 rfl (fun ls' h' => ?_)
  exact k la p e s m args below meth c D ad cy A hc H locs ls' cells slots hP hS (zLR_put1 (l := v0 :: v1 :: v2 :: v3 :: v4 :: v5 :: v6 :: v7 :: o :: t) (v := .ref x) h' (fun j u h h2 => by cases (show j = 7 by omega); exact zB2_cat hp (Option.some.inj h2))) ha hb
theorem zj_astore9 {v0 v1 v2 v3 v4 v5 v6 v7 v8 : Option Value} {o : Option Value} {x : Nat} (hn : pc + 2 = n) (hd : decode cc pc = .ok (.astore 9, 2)) (hp : zB2 v8 = false) (hb9 : 9 < nL) (k : zJG G y cc nL ret R Q X a b n (v0 :: v1 :: v2 :: v3 :: v4 :: v5 :: v6 :: v7 :: v8 :: some (.ref x) :: t) st M) : zJG G y cc nL ret R Q X a b pc (v0 :: v1 :: v2 :: v3 :: v4 :: v5 :: v6 :: v7 :: v8 :: o :: t) (.ref x :: st) M := by
  subst hn
  intro la p e s m args below meth c D ad cy A hc H locs ls cells slots hP hS hl ha hb
  obtain ⟨hf, hx, hcb, hr, hml, hown, hts, hlk, het, hA, hi, hai, hK, hks⟩ := id hc
  refine lv_astore hx hcb hd (zLR_has hl) hb9 rfl (fun ls' h' => ?_)
  exact k la p e s m args below meth c D ad cy A hc H locs ls' cells slots hP hS (zLR_put1 (l := v0 :: v1 :: v2 :: v3 :: v4 :: v5 :: v6 :: v7 :: v8 :: o :: t) (v := .ref x) h' (fun j u h h2 => by cases (show j = 8 by omega); exact zB2_cat hp (Option.some.inj h2))) ha hb
theorem zj_astore10 {v0 v1 v2 v3 v4 v5 v6 v7 v8 v9 : Option Value} {o : Option Value} {x : Nat} (hn : pc + 2 = n) (hd : decode cc pc = .ok (.astore 10, 2)) (hp : zB2 v9 = false) (hb9 : 10 < nL) (k : zJG G y cc nL ret R Q X a b n (v0 :: v1 :: v2 :: v3 :: v4 :: v5 :: v6 :: v7 :: v8 :: v9 :: some (.ref x) :: t) st M) : zJG G y cc nL ret R Q X a b pc (v0 :: v1 :: v2 :: v3 :: v4 :: v5 :: v6 :: v7 :: v8 :: v9 :: o :: t) (.ref x :: st) M := by
  subst hn
  intro la p e s m args below meth c D ad cy A hc H locs ls cells slots hP hS hl ha hb
  obtain ⟨hf, hx, hcb, hr, hml, hown, hts, hlk, het, hA, hi, hai, hK, hks⟩ := id hc
  refine lv_astore hx hcb hd (zLR_has hl) hb9 rfl (fun ls' h' => ?_)
  exact k la p e s m args below meth c D ad cy A hc H locs ls' cells slots hP hS (zLR_put1 (l := v0 :: v1 :: v2 :: v3 :: v4 :: v5 :: v6 :: v7 :: v8 :: v9 :: o :: t) (v := .ref x) h' (fun j u h h2 => by cases (show j = 9 by omega); exact zB2_cat hp (Option.some.inj h2))) ha hb
theorem zj_astore11 {v0 v1 v2 v3 v4 v5 v6 v7 v8 v9 v10 : Option Value} {o : Option Value} {x : Nat} (hn : pc + 2 = n) (hd : decode cc pc = .ok (.astore 11, 2)) (hp : zB2 v10 = false) (hb9 : 11 < nL) (k : zJG G y cc nL ret R Q X a b n (v0 :: v1 :: v2 :: v3 :: v4 :: v5 :: v6 :: v7 :: v8 :: v9 :: v10 :: some (.ref x) :: t) st M) : zJG G y cc nL ret R Q X a b pc (v0 :: v1 :: v2 :: v3 :: v4 :: v5 :: v6 :: v7 :: v8 :: v9 :: v10 :: o :: t) (.ref x :: st) M := by
  subst hn
  intro la p e s m args below meth c D ad cy A hc H locs ls cells slots hP hS hl ha hb
  obtain ⟨hf, hx, hcb, hr, hml, hown, hts, hlk, het, hA, hi, hai, hK, hks⟩ := id hc
  refine lv_astore hx hcb hd (zLR_has hl) hb9 rfl (fun ls' h' => ?_)
  exact k la p e s m args below meth c D ad cy A hc H locs ls' cells slots hP hS (zLR_put1 (l := v0 :: v1 :: v2 :: v3 :: v4 :: v5 :: v6 :: v7 :: v8 :: v9 :: v10 :: o :: t) (v := .ref x) h' (fun j u h h2 => by cases (show j = 10 by omega); exact zB2_cat hp (Option.some.inj h2))) ha hb
theorem zj_lstore0 {o o2 : Option Value} {x : Int64} (hn : pc + 1 = n) (hd : decode cc pc = .ok (.lstore_n 0, 1)) (hb9 : 0 + 1 < nL) (k : zJG G y cc nL ret R Q X a b n (some (.long x) :: none :: t) st M) : zJG G y cc nL ret R Q X a b pc (o :: o2 :: t) (.long x :: st) M := by
  subst hn
  intro la p e s m args below meth c D ad cy A hc H locs ls cells slots hP hS hl ha hb
  obtain ⟨hf, hx, hcb, hr, hml, hown, hts, hlk, het, hA, hi, hai, hK, hks⟩ := id hc
  refine lv_lstore_n hx hcb hd rfl (zLR_has hl) hb9 rfl (fun ls' h' => ?_)
  exact k la p e s m args below meth c D ad cy A hc H locs ls' cells slots hP hS (zLR_put2 (l := o :: o2 :: t) (v := .long x) h' (fun j u h _ => absurd h (by omega))) ha hb
theorem zj_lstore1 {v0 : Option Value} {o o2 : Option Value} {x : Int64} (hn : pc + 1 = n) (hd : decode cc pc = .ok (.lstore_n 1, 1)) (hp : zB2 v0 = false) (hb9 : 1 + 1 < nL) (k : zJG G y cc nL ret R Q X a b n (v0 :: some (.long x) :: none :: t) st M) : zJG G y cc nL ret R Q X a b pc (v0 :: o :: o2 :: t) (.long x :: st) M := by
  subst hn
  intro la p e s m args below meth c D ad cy A hc H locs ls cells slots hP hS hl ha hb
  obtain ⟨hf, hx, hcb, hr, hml, hown, hts, hlk, het, hA, hi, hai, hK, hks⟩ := id hc
  refine lv_lstore_n hx hcb hd rfl (zLR_has hl) hb9 rfl (fun ls' h' => ?_)
  exact k la p e s m args below meth c D ad cy A hc H locs ls' cells slots hP hS (zLR_put2 (l := v0 :: o :: o2 :: t) (v := .long x) h' (fun j u h h2 => by cases (show j = 0 by omega); exact zB2_cat hp (Option.some.inj h2))) ha hb
theorem zj_lstore2 {v0 v1 : Option Value} {o o2 : Option Value} {x : Int64} (hn : pc + 1 = n) (hd : decode cc pc = .ok (.lstore_n 2, 1)) (hp : zB2 v1 = false) (hb9 : 2 + 1 < nL) (k : zJG G y cc nL ret R Q X a b n (v0 :: v1 :: some (.long x) :: none :: t) st M) : zJG G y cc nL ret R Q X a b pc (v0 :: v1 :: o :: o2 :: t) (.long x :: st) M := by
  subst hn
  intro la p e s m args below meth c D ad cy A hc H locs ls cells slots hP hS hl ha hb
  obtain ⟨hf, hx, hcb, hr, hml, hown, hts, hlk, het, hA, hi, hai, hK, hks⟩ := id hc
  refine lv_lstore_n hx hcb hd rfl (zLR_has hl) hb9 rfl (fun ls' h' => ?_)
  exact k la p e s m args below meth c D ad cy A hc H locs ls' cells slots hP hS (zLR_put2 (l := v0 :: v1 :: o :: o2 :: t) (v := .long x) h' (fun j u h h2 => by cases (show j = 1 by omega); exact zB2_cat hp (Option.some.inj h2))) ha hb
theorem zj_lstore3 {v0 v1 v2 : Option Value} {o o2 : Option Value} {x : Int64} (hn : pc + 1 = n) (hd : decode cc pc = .ok (.lstore_n 3, 1)) (hp : zB2 v2 = false) (hb9 : 3 + 1 < nL) (k : zJG G y cc nL ret R Q X a b n (v0 :: v1 :: v2 :: some (.long x) :: none :: t) st M) : zJG G y cc nL ret R Q X a b pc (v0 :: v1 :: v2 :: o :: o2 :: t) (.long x :: st) M := by
  subst hn
  intro la p e s m args below meth c D ad cy A hc H locs ls cells slots hP hS hl ha hb
  obtain ⟨hf, hx, hcb, hr, hml, hown, hts, hlk, het, hA, hi, hai, hK, hks⟩ := id hc
  refine lv_lstore_n hx hcb hd rfl (zLR_has hl) hb9 rfl (fun ls' h' => ?_)
  exact k la p e s m args below meth c D ad cy A hc H locs ls' cells slots hP hS (zLR_put2 (l := v0 :: v1 :: v2 :: o :: o2 :: t) (v := .long x) h' (fun j u h h2 => by cases (show j = 2 by omega); exact zB2_cat hp (Option.some.inj h2))) ha hb
theorem zj_lstore4 {v0 v1 v2 v3 : Option Value} {o o2 : Option Value} {x : Int64} (hn : pc + 2 = n) (hd : decode cc pc = .ok (.lstore 4, 2)) (hp : zB2 v3 = false) (hb9 : 4 + 1 < nL) (k : zJG G y cc nL ret R Q X a b n (v0 :: v1 :: v2 :: v3 :: some (.long x) :: none :: t) st M) : zJG G y cc nL ret R Q X a b pc (v0 :: v1 :: v2 :: v3 :: o :: o2 :: t) (.long x :: st) M := by
  subst hn
  intro la p e s m args below meth c D ad cy A hc H locs ls cells slots hP hS hl ha hb
  obtain ⟨hf, hx, hcb, hr, hml, hown, hts, hlk, het, hA, hi, hai, hK, hks⟩ := id hc
  refine lv_lstore hx hcb hd (zLR_has hl) hb9 rfl (fun ls' h' => ?_)
  exact k la p e s m args below meth c D ad cy A hc H locs ls' cells slots hP hS (zLR_put2 (l := v0 :: v1 :: v2 :: v3 :: o :: o2 :: t) (v := .long x) h' (fun j u h h2 => by cases (show j = 3 by omega); exact zB2_cat hp (Option.some.inj h2))) ha hb
theorem zj_lstore5 {v0 v1 v2 v3 v4 : Option Value} {o o2 : Option Value} {x : Int64} (hn : pc + 2 = n) (hd : decode cc pc = .ok (.lstore 5, 2)) (hp : zB2 v4 = false) (hb9 : 5 + 1 < nL) (k : zJG G y cc nL ret R Q X a b n (v0 :: v1 :: v2 :: v3 :: v4 :: some (.long x) :: none :: t) st M) : zJG G y cc nL ret R Q X a b pc (v0 :: v1 :: v2 :: v3 :: v4 :: o :: o2 :: t) (.long x :: st) M := by
  subst hn
  intro la p e s m args below meth c D ad cy A hc H locs ls cells slots hP hS hl ha hb
  obtain ⟨hf, hx, hcb, hr, hml, hown, hts, hlk, het, hA, hi, hai, hK, hks⟩ := id hc
  refine lv_lstore hx hcb hd (zLR_has hl) hb9 rfl (fun ls' h' => ?_)
  exact k la p e s m args below meth c D ad cy A hc H locs ls' cells slots hP hS (zLR_put2 (l := v0 :: v1 :: v2 :: v3 :: v4 :: o :: o2 :: t) (v := .long x) h' (fun j u h h2 => by cases (show j = 4 by omega); exact zB2_cat hp (Option.some.inj h2))) ha hb
theorem zj_lstore6 {v0 v1 v2 v3 v4 v5 : Option Value} {o o2 : Option Value} {x : Int64} (hn : pc + 2 = n) (hd : decode cc pc = .ok (.lstore 6, 2)) (hp : zB2 v5 = false) (hb9 : 6 + 1 < nL) (k : zJG G y cc nL ret R Q X a b n (v0 :: v1 :: v2 :: v3 :: v4 :: v5 :: some (.long x) :: none :: t) st M) : zJG G y cc nL ret R Q X a b pc (v0 :: v1 :: v2 :: v3 :: v4 :: v5 :: o :: o2 :: t) (.long x :: st) M := by
  subst hn
  intro la p e s m args below meth c D ad cy A hc H locs ls cells slots hP hS hl ha hb
  obtain ⟨hf, hx, hcb, hr, hml, hown, hts, hlk, het, hA, hi, hai, hK, hks⟩ := id hc
  refine lv_lstore hx hcb hd (zLR_has hl) hb9 rfl (fun ls' h' => ?_)
  exact k la p e s m args below meth c D ad cy A hc H locs ls' cells slots hP hS (zLR_put2 (l := v0 :: v1 :: v2 :: v3 :: v4 :: v5 :: o :: o2 :: t) (v := .long x) h' (fun j u h h2 => by cases (show j = 5 by omega); exact zB2_cat hp (Option.some.inj h2))) ha hb
theorem zj_lstore7 {v0 v1 v2 v3 v4 v5 v6 : Option Value} {o o2 : Option Value} {x : Int64} (hn : pc + 2 = n) (hd : decode cc pc = .ok (.lstore 7, 2)) (hp : zB2 v6 = false) (hb9 : 7 + 1 < nL) (k : zJG G y cc nL ret R Q X a b n (v0 :: v1 :: v2 :: v3 :: v4 :: v5 :: v6 :: some (.long x) :: none :: t) st M) : zJG G y cc nL ret R Q X a b pc (v0 :: v1 :: v2 :: v3 :: v4 :: v5 :: v6 :: o :: o2 :: t) (.long x :: st) M := by
  subst hn
  intro la p e s m args below meth c D ad cy A hc H locs ls cells slots hP hS hl ha hb
  obtain ⟨hf, hx, hcb, hr, hml, hown, hts, hlk, het, hA, hi, hai, hK, hks⟩ := id hc
  refine lv_lstore hx hcb hd (zLR_has hl) hb9 rfl (fun ls' h' => ?_)
  exact k la p e s m args below meth c D ad cy A hc H locs ls' cells slots hP hS (zLR_put2 (l := v0 :: v1 :: v2 :: v3 :: v4 :: v5 :: v6 :: o :: o2 :: t) (v := .long x) h' (fun j u h h2 => by cases (show j = 6 by omega); exact zB2_cat hp (Option.some.inj h2))) ha hb
theorem zj_lstore8 {v0 v1 v2 v3 v4 v5 v6 v7 : Option Value} {o o2 : Option Value} {x : Int64} (hn : pc + 2 = n) (hd : decode cc pc = .ok (.lstore 8, 2)) (hp : zB2 v7 = false) (hb9 : 8 + 1 < nL) (k : zJG G y cc nL ret R Q X a b n (v0 :: v1 :: v2 :: v3 :: v4 :: v5 :: v6 :: v7 :: some (.long x) :: none :: t) st M) : zJG G y cc nL ret R Q X a b pc (v0 :: v1 :: v2 :: v3 :: v4 :: v5 :: v6 :: v7 :: o :: o2 :: t) (.long x :: st) M := by
  subst hn
  intro la p e s m args below meth c D ad cy A hc H locs ls cells slots hP hS hl ha hb
  obtain ⟨hf, hx, hcb, hr, hml, hown, hts, hlk, het, hA, hi, hai, hK, hks⟩ := id hc
  refine lv_lstore hx hcb hd (zLR_has hl) hb9 rfl (fun ls' h' => ?_)
  exact k la p e s m args below meth c D ad cy A hc H locs ls' cells slots hP hS (zLR_put2 (l := v0 :: v1 :: v2 :: v3 :: v4 :: v5 :: v6 :: v7 :: o :: o2 :: t) (v := .long x) h' (fun j u h h2 => by cases (show j = 7 by omega); exact zB2_cat hp (Option.some.inj h2))) ha hb
theorem zj_lstore9 {v0 v1 v2 v3 v4 v5 v6 v7 v8 : Option Value} {o o2 : Option Value} {x : Int64} (hn : pc + 2 = n) (hd : decode cc pc = .ok (.lstore 9, 2)) (hp : zB2 v8 = false) (hb9 : 9 + 1 < nL) (k : zJG G y cc nL ret R Q X a b n (v0 :: v1 :: v2 :: v3 :: v4 :: v5 :: v6 :: v7 :: v8 :: some (.long x) :: none :: t) st M) : zJG G y cc nL ret R Q X a b pc (v0 :: v1 :: v2 :: v3 :: v4 :: v5 :: v6 :: v7 :: v8 :: o :: o2 :: t) (.long x :: st) M := by
  subst hn
  intro la p e s m args below meth c D ad cy A hc H locs ls cells slots hP hS hl ha hb
  obtain ⟨hf, hx, hcb, hr, hml, hown, hts, hlk, het, hA, hi, hai, hK, hks⟩ := id hc
  refine lv_lstore hx hcb hd (zLR_has hl) hb9 rfl (fun ls' h' => ?_)
  exact k la p e s m args below meth c D ad cy A hc H locs ls' cells slots hP hS (zLR_put2 (l := v0 :: v1 :: v2 :: v3 :: v4 :: v5 :: v6 :: v7 :: v8 :: o :: o2 :: t) (v := .long x) h' (fun j u h h2 => by cases (show j = 8 by omega); exact zB2_cat hp (Option.some.inj h2))) ha hb
theorem zj_lstore10 {v0 v1 v2 v3 v4 v5 v6 v7 v8 v9 : Option Value} {o o2 : Option Value} {x : Int64} (hn : pc + 2 = n) (hd : decode cc pc = .ok (.lstore 10, 2)) (hp : zB2 v9 = false) (hb9 : 10 + 1 < nL) (k : zJG G y cc nL ret R Q X a b n (v0 :: v1 :: v2 :: v3 :: v4 :: v5 :: v6 :: v7 :: v8 :: v9 :: some (.long x) :: none :: t) st M) : zJG G y cc nL ret R Q X a b pc (v0 :: v1 :: v2 :: v3 :: v4 :: v5 :: v6 :: v7 :: v8 :: v9 :: o :: o2 :: t) (.long x :: st) M := by
  subst hn
  intro la p e s m args below meth c D ad cy A hc H locs ls cells slots hP hS hl ha hb
  obtain ⟨hf, hx, hcb, hr, hml, hown, hts, hlk, het, hA, hi, hai, hK, hks⟩ := id hc
  refine lv_lstore hx hcb hd (zLR_has hl) hb9 rfl (fun ls' h' => ?_)
  exact k la p e s m args below meth c D ad cy A hc H locs ls' cells slots hP hS (zLR_put2 (l := v0 :: v1 :: v2 :: v3 :: v4 :: v5 :: v6 :: v7 :: v8 :: v9 :: o :: o2 :: t) (v := .long x) h' (fun j u h h2 => by cases (show j = 9 by omega); exact zB2_cat hp (Option.some.inj h2))) ha hb
theorem zj_lstore11 {v0 v1 v2 v3 v4 v5 v6 v7 v8 v9 v10 : Option Value} {o o2 : Option Value} {x : Int64} (hn : pc + 2 = n) (hd : decode cc pc = .ok (.lstore 11, 2)) (hp : zB2 v10 = false) (hb9 : 11 + 1 < nL) (k : zJG G y cc nL ret R Q X a b n (v0 :: v1 :: v2 :: v3 :: v4 :: v5 :: v6 :: v7 :: v8 :: v9 :: v10 :: some (.long x) :: none :: t) st M) : zJG G y cc nL ret R Q X a b pc (v0 :: v1 :: v2 :: v3 :: v4 :: v5 :: v6 :: v7 :: v8 :: v9 :: v10 :: o :: o2 :: t) (.long x :: st) M := by
  subst hn
  intro la p e s m args below meth c D ad cy A hc H locs ls cells slots hP hS hl ha hb
  obtain ⟨hf, hx, hcb, hr, hml, hown, hts, hlk, het, hA, hi, hai, hK, hks⟩ := id hc
  refine lv_lstore hx hcb hd (zLR_has hl) hb9 rfl (fun ls' h' => ?_)
  exact k la p e s m args below meth c D ad cy A hc H locs ls' cells slots hP hS (zLR_put2 (l := v0 :: v1 :: v2 :: v3 :: v4 :: v5 :: v6 :: v7 :: v8 :: v9 :: v10 :: o :: o2 :: t) (v := .long x) h' (fun j u h h2 => by cases (show j = 10 by omega); exact zB2_cat hp (Option.some.inj h2))) ha hb
theorem zj_dstore0 {o o2 : Option Value} {x : UInt64} (hn : pc + 1 = n) (hd : decode cc pc = .ok (.dstore_n 0, 1)) (hb9 : 0 + 1 < nL) (k : zJG G y cc nL ret R Q X a b n (some (.double x) :: none :: t) st M) : zJG G y cc nL ret R Q X a b pc (o :: o2 :: t) (.double x :: st) M := by
  subst hn
  intro la p e s m args below meth c D ad cy A hc H locs ls cells slots hP hS hl ha hb
  obtain ⟨hf, hx, hcb, hr, hml, hown, hts, hlk, het, hA, hi, hai, hK, hks⟩ := id hc
  refine lv_dstore_n hx hcb hd rfl (zLR_has hl) hb9 rfl (fun ls' h' => ?_)
  exact k la p e s m args below meth c D ad cy A hc H locs ls' cells slots hP hS (zLR_put2 (l := o :: o2 :: t) (v := .double x) h' (fun j u h _ => absurd h (by omega))) ha hb
theorem zj_dstore1 {v0 : Option Value} {o o2 : Option Value} {x : UInt64} (hn : pc + 1 = n) (hd : decode cc pc = .ok (.dstore_n 1, 1)) (hp : zB2 v0 = false) (hb9 : 1 + 1 < nL) (k : zJG G y cc nL ret R Q X a b n (v0 :: some (.double x) :: none :: t) st M) : zJG G y cc nL ret R Q X a b pc (v0 :: o :: o2 :: t) (.double x :: st) M := by
  subst hn
  intro la p e s m args below meth c D ad cy A hc H locs ls cells slots hP hS hl ha hb
  obtain ⟨hf, hx, hcb, hr, hml, hown, hts, hlk, het, hA, hi, hai, hK, hks⟩ := id hc
  refine lv_dstore_n hx hcb hd rfl (zLR_has hl) hb9 rfl (fun ls' h' => ?_)
  exact k la p e s m args below meth c D ad cy A hc H locs ls' cells slots hP hS (zLR_put2 (l := v0 :: o :: o2 :: t) (v := .double x) h' (fun j u h h2 => by cases (show j = 0 by omega); exact zB2_cat hp (Option.some.inj h2))) ha hb
theorem zj_dstore2 {v0 v1 : Option Value} {o o2 : Option Value} {x : UInt64} (hn : pc + 1 = n) (hd : decode cc pc = .ok (.dstore_n 2, 1)) (hp : zB2 v1 = false) (hb9 : 2 + 1 < nL) (k : zJG G y cc nL ret R Q X a b n (v0 :: v1 :: some (.double x) :: none :: t) st M) : zJG G y cc nL ret R Q X a b pc (v0 :: v1 :: o :: o2 :: t) (.double x :: st) M := by
  subst hn
  intro la p e s m args below meth c D ad cy A hc H locs ls cells slots hP hS hl ha hb
  obtain ⟨hf, hx, hcb, hr, hml, hown, hts, hlk, het, hA, hi, hai, hK, hks⟩ := id hc
  refine lv_dstore_n hx hcb hd rfl (zLR_has hl) hb9 rfl (fun ls' h' => ?_)
  exact k la p e s m args below meth c D ad cy A hc H locs ls' cells slots hP hS (zLR_put2 (l := v0 :: v1 :: o :: o2 :: t) (v := .double x) h' (fun j u h h2 => by cases (show j = 1 by omega); exact zB2_cat hp (Option.some.inj h2))) ha hb
theorem zj_dstore3 {v0 v1 v2 : Option Value} {o o2 : Option Value} {x : UInt64} (hn : pc + 1 = n) (hd : decode cc pc = .ok (.dstore_n 3, 1)) (hp : zB2 v2 = false) (hb9 : 3 + 1 < nL) (k : zJG G y cc nL ret R Q X a b n (v0 :: v1 :: v2 :: some (.double x) :: none :: t) st M) : zJG G y cc nL ret R Q X a b pc (v0 :: v1 :: v2 :: o :: o2 :: t) (.double x :: st) M := by
  subst hn
  intro la p e s m args below meth c D ad cy A hc H locs ls cells slots hP hS hl ha hb
  obtain ⟨hf, hx, hcb, hr, hml, hown, hts, hlk, het, hA, hi, hai, hK, hks⟩ := id hc
  refine lv_dstore_n hx hcb hd rfl (zLR_has hl) hb9 rfl (fun ls' h' => ?_)
  exact k la p e s m args below meth c D ad cy A hc H locs ls' cells slots hP hS (zLR_put2 (l := v0 :: v1 :: v2 :: o :: o2 :: t) (v := .double x) h' (fun j u h h2 => by cases (show j = 2 by omega); exact zB2_cat hp (Option.some.inj h2))) ha hb
theorem zj_dstore4 {v0 v1 v2 v3 : Option Value} {o o2 : Option Value} {x : UInt64} (hn : pc + 2 = n) (hd : decode cc pc = .ok (.dstore 4, 2)) (hp : zB2 v3 = false) (hb9 : 4 + 1 < nL) (k : zJG G y cc nL ret R Q X a b n (v0 :: v1 :: v2 :: v3 :: some (.double x) :: none :: t) st M) : zJG G y cc nL ret R Q X a b pc (v0 :: v1 :: v2 :: v3 :: o :: o2 :: t) (.double x :: st) M := by
  subst hn
  intro la p e s m args below meth c D ad cy A hc H locs ls cells slots hP hS hl ha hb
  obtain ⟨hf, hx, hcb, hr, hml, hown, hts, hlk, het, hA, hi, hai, hK, hks⟩ := id hc
  refine lv_dstore hx hcb hd (zLR_has hl) hb9 rfl (fun ls' h' => ?_)
  exact k la p e s m args below meth c D ad cy A hc H locs ls' cells slots hP hS (zLR_put2 (l := v0 :: v1 :: v2 :: v3 :: o :: o2 :: t) (v := .double x) h' (fun j u h h2 => by cases (show j = 3 by omega); exact zB2_cat hp (Option.some.inj h2))) ha hb
theorem zj_dstore5 {v0 v1 v2 v3 v4 : Option Value} {o o2 : Option Value} {x : UInt64} (hn : pc + 2 = n) (hd : decode cc pc = .ok (.dstore 5, 2)) (hp : zB2 v4 = false) (hb9 : 5 + 1 < nL) (k : zJG G y cc nL ret R Q X a b n (v0 :: v1 :: v2 :: v3 :: v4 :: some (.double x) :: none :: t) st M) : zJG G y cc nL ret R Q X a b pc (v0 :: v1 :: v2 :: v3 :: v4 :: o :: o2 :: t) (.double x :: st) M := by
  subst hn
  intro la p e s m args below meth c D ad cy A hc H locs ls cells slots hP hS hl ha hb
  obtain ⟨hf, hx, hcb, hr, hml, hown, hts, hlk, het, hA, hi, hai, hK, hks⟩ := id hc
  refine lv_dstore hx hcb hd (zLR_has hl) hb9 rfl (fun ls' h' => ?_)
  exact k la p e s m args below meth c D ad cy A hc H locs ls' cells slots hP hS (zLR_put2 (l := v0 :: v1 :: v2 :: v3 :: v4 :: o :: o2 :: t) (v := .double x) h' (fun j u h h2 => by cases (show j = 4 by omega); exact zB2_cat hp (Option.some.inj h2))) ha hb
theorem zj_dstore6 {v0 v1 v2 v3 v4 v5 : Option Value} {o o2 : Option Value} {x : UInt64} (hn : pc + 2 = n) (hd : decode cc pc = .ok (.dstore 6, 2)) (hp : zB2 v5 = false) (hb9 : 6 + 1 < nL) (k : zJG G y cc nL ret R Q X a b n (v0 :: v1 :: v2 :: v3 :: v4 :: v5 :: some (.double x) :: none :: t) st M) : zJG G y cc nL ret R Q X a b pc (v0 :: v1 :: v2 :: v3 :: v4 :: v5 :: o :: o2 :: t) (.double x :: st) M := by
  subst hn
  intro la p e s m args below meth c D ad cy A hc H locs ls cells slots hP hS hl ha hb
  obtain ⟨hf, hx, hcb, hr, hml, hown, hts, hlk, het, hA, hi, hai, hK, hks⟩ := id hc
  refine lv_dstore hx hcb hd (zLR_has hl) hb9 rfl (fun ls' h' => ?_)
  exact k la p e s m args below meth c D ad cy A hc H locs ls' cells slots hP hS (zLR_put2 (l := v0 :: v1 :: v2 :: v3 :: v4 :: v5 :: o :: o2 :: t) (v := .double x) h' (fun j u h h2 => by cases (show j = 5 by omega); exact zB2_cat hp (Option.some.inj h2))) ha hb
theorem zj_dstore7 {v0 v1 v2 v3 v4 v5 v6 : Option Value} {o o2 : Option Value} {x : UInt64} (hn : pc + 2 = n) (hd : decode cc pc = .ok (.dstore 7, 2)) (hp : zB2 v6 = false) (hb9 : 7 + 1 < nL) (k : zJG G y cc nL ret R Q X a b n (v0 :: v1 :: v2 :: v3 :: v4 :: v5 :: v6 :: some (.double x) :: none :: t) st M) : zJG G y cc nL ret R Q X a b pc (v0 :: v1 :: v2 :: v3 :: v4 :: v5 :: v6 :: o :: o2 :: t) (.double x :: st) M := by
  subst hn
  intro la p e s m args below meth c D ad cy A hc H locs ls cells slots hP hS hl ha hb
  obtain ⟨hf, hx, hcb, hr, hml, hown, hts, hlk, het, hA, hi, hai, hK, hks⟩ := id hc
  refine lv_dstore hx hcb hd (zLR_has hl) hb9 rfl (fun ls' h' => ?_)
  exact k la p e s m args below meth c D ad cy A hc H locs ls' cells slots hP hS (zLR_put2 (l := v0 :: v1 :: v2 :: v3 :: v4 :: v5 :: v6 :: o :: o2 :: t) (v := .double x) h' (fun j u h h2 => by cases (show j = 6 by omega); exact zB2_cat hp (Option.some.inj h2))) ha hb
theorem zj_dstore8 {v0 v1 v2 v3 v4 v5 v6 v7 : Option Value} {o o2 : Option Value} {x : UInt64} (hn : pc + 2 = n) (hd : decode cc pc = .ok (.dstore 8, 2)) (hp : zB2 v7 = false) (hb9 : 8 + 1 < nL) (k : zJG G y cc nL ret R Q X a b n (v0 :: v1 :: v2 :: v3 :: v4 :: v5 :: v6 :: v7 :: some (.double x) :: none :: t) st M) : zJG G y cc nL ret R Q X a b pc (v0 :: v1 :: v2 :: v3 :: v4 :: v5 :: v6 :: v7 :: o :: o2 :: t) (.double x :: st) M := by
  subst hn
  intro la p e s m args below meth c D ad cy A hc H locs ls cells slots hP hS hl ha hb
  obtain ⟨hf, hx, hcb, hr, hml, hown, hts, hlk, het, hA, hi, hai, hK, hks⟩ := id hc
  refine lv_dstore hx hcb hd (zLR_has hl) hb9 rfl (fun ls' h' => ?_)
  exact k la p e s m args below meth c D ad cy A hc H locs ls' cells slots hP hS (zLR_put2 (l := v0 :: v1 :: v2 :: v3 :: v4 :: v5 :: v6 :: v7 :: o :: o2 :: t) (v := .double x) h' (fun j u h h2 => by cases (show j = 7 by omega); exact zB2_cat hp (Option.some.inj h2))) ha hb
theorem zj_dstore9 {v0 v1 v2 v3 v4 v5 v6 v7 v8 : Option Value} {o o2 : Option Value} {x : UInt64} (hn : pc + 2 = n) (hd : decode cc pc = .ok (.dstore 9, 2)) (hp : zB2 v8 = false) (hb9 : 9 + 1 < nL) (k : zJG G y cc nL ret R Q X a b n (v0 :: v1 :: v2 :: v3 :: v4 :: v5 :: v6 :: v7 :: v8 :: some (.double x) :: none :: t) st M) : zJG G y cc nL ret R Q X a b pc (v0 :: v1 :: v2 :: v3 :: v4 :: v5 :: v6 :: v7 :: v8 :: o :: o2 :: t) (.double x :: st) M := by
  subst hn
  intro la p e s m args below meth c D ad cy A hc H locs ls cells slots hP hS hl ha hb
  obtain ⟨hf, hx, hcb, hr, hml, hown, hts, hlk, het, hA, hi, hai, hK, hks⟩ := id hc
  refine lv_dstore hx hcb hd (zLR_has hl) hb9 rfl (fun ls' h' => ?_)
  exact k la p e s m args below meth c D ad cy A hc H locs ls' cells slots hP hS (zLR_put2 (l := v0 :: v1 :: v2 :: v3 :: v4 :: v5 :: v6 :: v7 :: v8 :: o :: o2 :: t) (v := .double x) h' (fun j u h h2 => by cases (show j = 8 by omega); exact zB2_cat hp (Option.some.inj h2))) ha hb
theorem zj_dstore10 {v0 v1 v2 v3 v4 v5 v6 v7 v8 v9 : Option Value} {o o2 : Option Value} {x : UInt64} (hn : pc + 2 = n) (hd : decode cc pc = .ok (.dstore 10, 2)) (hp : zB2 v9 = false) (hb9 : 10 + 1 < nL) (k : zJG G y cc nL ret R Q X a b n (v0 :: v1 :: v2 :: v3 :: v4 :: v5 :: v6 :: v7 :: v8 :: v9 :: some (.double x) :: none :: t) st M) : zJG G y cc nL ret R Q X a b pc (v0 :: v1 :: v2 :: v3 :: v4 :: v5 :: v6 :: v7 :: v8 :: v9 :: o :: o2 :: t) (.double x :: st) M := by
  subst hn
  intro la p e s m args below meth c D ad cy A hc H locs ls cells slots hP hS hl ha hb
  obtain ⟨hf, hx, hcb, hr, hml, hown, hts, hlk, het, hA, hi, hai, hK, hks⟩ := id hc
  refine lv_dstore hx hcb hd (zLR_has hl) hb9 rfl (fun ls' h' => ?_)
  exact k la p e s m args below meth c D ad cy A hc H locs ls' cells slots hP hS (zLR_put2 (l := v0 :: v1 :: v2 :: v3 :: v4 :: v5 :: v6 :: v7 :: v8 :: v9 :: o :: o2 :: t) (v := .double x) h' (fun j u h h2 => by cases (show j = 9 by omega); exact zB2_cat hp (Option.some.inj h2))) ha hb
theorem zj_dstore11 {v0 v1 v2 v3 v4 v5 v6 v7 v8 v9 v10 : Option Value} {o o2 : Option Value} {x : UInt64} (hn : pc + 2 = n) (hd : decode cc pc = .ok (.dstore 11, 2)) (hp : zB2 v10 = false) (hb9 : 11 + 1 < nL) (k : zJG G y cc nL ret R Q X a b n (v0 :: v1 :: v2 :: v3 :: v4 :: v5 :: v6 :: v7 :: v8 :: v9 :: v10 :: some (.double x) :: none :: t) st M) : zJG G y cc nL ret R Q X a b pc (v0 :: v1 :: v2 :: v3 :: v4 :: v5 :: v6 :: v7 :: v8 :: v9 :: v10 :: o :: o2 :: t) (.double x :: st) M := by
  subst hn
  intro la p e s m args below meth c D ad cy A hc H locs ls cells slots hP hS hl ha hb
  obtain ⟨hf, hx, hcb, hr, hml, hown, hts, hlk, het, hA, hi, hai, hK, hks⟩ := id hc
  refine lv_dstore hx hcb hd (zLR_has hl) hb9 rfl (fun ls' h' => ?_)
  exact k la p e s m args below meth c D ad cy A hc H locs ls' cells slots hP hS (zLR_put2 (l := v0 :: v1 :: v2 :: v3 :: v4 :: v5 :: v6 :: v7 :: v8 :: v9 :: v10 :: o :: o2 :: t) (v := .double x) h' (fun j u h h2 => by cases (show j = 10 by omega); exact zB2_cat hp (Option.some.inj h2))) ha hb
theorem zj_iinc0 {x v : Int32} {d : Int} (hn : pc + 3 = n) (hd : decode cc pc = .ok (.iinc 0 d, 3)) (hv : x + Int32.ofInt d = v) (hb9 : 0 < nL) (k : zJG G y cc nL ret R Q X a b n (some (.int v) :: t) st M) : zJG G y cc nL ret R Q X a b pc (some (.int x) :: t) st M := by
  subst hn
  intro la p e s m args below meth c D ad cy A hc H locs ls cells slots hP hS hl ha hb
  obtain ⟨hf, hx, hcb, hr, hml, hown, hts, hlk, het, hA, hi, hai, hK, hks⟩ := id hc
  obtain ⟨k9, hk9⟩ := List.getElem?_of_mem (zPr_mem (ad := ad) (l := some (.int x) :: t) (n := 0) (q := (0, .int x)) |>.mpr ⟨0, .int x, rfl, by simp [zC]⟩)
  refine lv_iinc hx hcb hd (zLR_has hl) hk9 hv hb9 rfl (fun ls' h' => ?_)
  exact k la p e s m args below meth c D ad cy A hc H locs ls' cells slots hP hS (zLR_put1 (l := some (.int x) :: t) (v := .int v) h' (fun j u h _ => absurd h (by omega))) ha hb
theorem zj_iinc1 {v0 : Option Value} {x v : Int32} {d : Int} (hn : pc + 3 = n) (hd : decode cc pc = .ok (.iinc 1 d, 3)) (hp : zB2 v0 = false) (hv : x + Int32.ofInt d = v) (hb9 : 1 < nL) (k : zJG G y cc nL ret R Q X a b n (v0 :: some (.int v) :: t) st M) : zJG G y cc nL ret R Q X a b pc (v0 :: some (.int x) :: t) st M := by
  subst hn
  intro la p e s m args below meth c D ad cy A hc H locs ls cells slots hP hS hl ha hb
  obtain ⟨hf, hx, hcb, hr, hml, hown, hts, hlk, het, hA, hi, hai, hK, hks⟩ := id hc
  obtain ⟨k9, hk9⟩ := List.getElem?_of_mem (zPr_mem (ad := ad) (l := v0 :: some (.int x) :: t) (n := 0) (q := (1, .int x)) |>.mpr ⟨1, .int x, rfl, by simp [zC]⟩)
  refine lv_iinc hx hcb hd (zLR_has hl) hk9 hv hb9 rfl (fun ls' h' => ?_)
  exact k la p e s m args below meth c D ad cy A hc H locs ls' cells slots hP hS (zLR_put1 (l := v0 :: some (.int x) :: t) (v := .int v) h' (fun j u h h2 => by cases (show j = 0 by omega); exact zB2_cat hp (Option.some.inj h2))) ha hb
theorem zj_iinc2 {v0 v1 : Option Value} {x v : Int32} {d : Int} (hn : pc + 3 = n) (hd : decode cc pc = .ok (.iinc 2 d, 3)) (hp : zB2 v1 = false) (hv : x + Int32.ofInt d = v) (hb9 : 2 < nL) (k : zJG G y cc nL ret R Q X a b n (v0 :: v1 :: some (.int v) :: t) st M) : zJG G y cc nL ret R Q X a b pc (v0 :: v1 :: some (.int x) :: t) st M := by
  subst hn
  intro la p e s m args below meth c D ad cy A hc H locs ls cells slots hP hS hl ha hb
  obtain ⟨hf, hx, hcb, hr, hml, hown, hts, hlk, het, hA, hi, hai, hK, hks⟩ := id hc
  obtain ⟨k9, hk9⟩ := List.getElem?_of_mem (zPr_mem (ad := ad) (l := v0 :: v1 :: some (.int x) :: t) (n := 0) (q := (2, .int x)) |>.mpr ⟨2, .int x, rfl, by simp [zC]⟩)
  refine lv_iinc hx hcb hd (zLR_has hl) hk9 hv hb9 rfl (fun ls' h' => ?_)
  exact k la p e s m args below meth c D ad cy A hc H locs ls' cells slots hP hS (zLR_put1 (l := v0 :: v1 :: some (.int x) :: t) (v := .int v) h' (fun j u h h2 => by cases (show j = 1 by omega); exact zB2_cat hp (Option.some.inj h2))) ha hb
theorem zj_iinc3 {v0 v1 v2 : Option Value} {x v : Int32} {d : Int} (hn : pc + 3 = n) (hd : decode cc pc = .ok (.iinc 3 d, 3)) (hp : zB2 v2 = false) (hv : x + Int32.ofInt d = v) (hb9 : 3 < nL) (k : zJG G y cc nL ret R Q X a b n (v0 :: v1 :: v2 :: some (.int v) :: t) st M) : zJG G y cc nL ret R Q X a b pc (v0 :: v1 :: v2 :: some (.int x) :: t) st M := by
  subst hn
  intro la p e s m args below meth c D ad cy A hc H locs ls cells slots hP hS hl ha hb
  obtain ⟨hf, hx, hcb, hr, hml, hown, hts, hlk, het, hA, hi, hai, hK, hks⟩ := id hc
  obtain ⟨k9, hk9⟩ := List.getElem?_of_mem (zPr_mem (ad := ad) (l := v0 :: v1 :: v2 :: some (.int x) :: t) (n := 0) (q := (3, .int x)) |>.mpr ⟨3, .int x, rfl, by simp [zC]⟩)
  refine lv_iinc hx hcb hd (zLR_has hl) hk9 hv hb9 rfl (fun ls' h' => ?_)
  exact k la p e s m args below meth c D ad cy A hc H locs ls' cells slots hP hS (zLR_put1 (l := v0 :: v1 :: v2 :: some (.int x) :: t) (v := .int v) h' (fun j u h h2 => by cases (show j = 2 by omega); exact zB2_cat hp (Option.some.inj h2))) ha hb
theorem zj_iinc4 {v0 v1 v2 v3 : Option Value} {x v : Int32} {d : Int} (hn : pc + 3 = n) (hd : decode cc pc = .ok (.iinc 4 d, 3)) (hp : zB2 v3 = false) (hv : x + Int32.ofInt d = v) (hb9 : 4 < nL) (k : zJG G y cc nL ret R Q X a b n (v0 :: v1 :: v2 :: v3 :: some (.int v) :: t) st M) : zJG G y cc nL ret R Q X a b pc (v0 :: v1 :: v2 :: v3 :: some (.int x) :: t) st M := by
  subst hn
  intro la p e s m args below meth c D ad cy A hc H locs ls cells slots hP hS hl ha hb
  obtain ⟨hf, hx, hcb, hr, hml, hown, hts, hlk, het, hA, hi, hai, hK, hks⟩ := id hc
  obtain ⟨k9, hk9⟩ := List.getElem?_of_mem (zPr_mem (ad := ad) (l := v0 :: v1 :: v2 :: v3 :: some (.int x) :: t) (n := 0) (q := (4, .int x)) |>.mpr ⟨4, .int x, rfl, by simp [zC]⟩)
  refine lv_iinc hx hcb hd (zLR_has hl) hk9 hv hb9 rfl (fun ls' h' => ?_)
  exact k la p e s m args below meth c D ad cy A hc H locs ls' cells slots hP hS (zLR_put1 (l := v0 :: v1 :: v2 :: v3 :: some (.int x) :: t) (v := .int v) h' (fun j u h h2 => by cases (show j = 3 by omega); exact zB2_cat hp (Option.some.inj h2))) ha hb
theorem zj_iinc5 {v0 v1 v2 v3 v4 : Option Value} {x v : Int32} {d : Int} (hn : pc + 3 = n) (hd : decode cc pc = .ok (.iinc 5 d, 3)) (hp : zB2 v4 = false) (hv : x + Int32.ofInt d = v) (hb9 : 5 < nL) (k : zJG G y cc nL ret R Q X a b n (v0 :: v1 :: v2 :: v3 :: v4 :: some (.int v) :: t) st M) : zJG G y cc nL ret R Q X a b pc (v0 :: v1 :: v2 :: v3 :: v4 :: some (.int x) :: t) st M := by
  subst hn
  intro la p e s m args below meth c D ad cy A hc H locs ls cells slots hP hS hl ha hb
  obtain ⟨hf, hx, hcb, hr, hml, hown, hts, hlk, het, hA, hi, hai, hK, hks⟩ := id hc
  obtain ⟨k9, hk9⟩ := List.getElem?_of_mem (zPr_mem (ad := ad) (l := v0 :: v1 :: v2 :: v3 :: v4 :: some (.int x) :: t) (n := 0) (q := (5, .int x)) |>.mpr ⟨5, .int x, rfl, by simp [zC]⟩)
  refine lv_iinc hx hcb hd (zLR_has hl) hk9 hv hb9 rfl (fun ls' h' => ?_)
  exact k la p e s m args below meth c D ad cy A hc H locs ls' cells slots hP hS (zLR_put1 (l := v0 :: v1 :: v2 :: v3 :: v4 :: some (.int x) :: t) (v := .int v) h' (fun j u h h2 => by cases (show j = 4 by omega); exact zB2_cat hp (Option.some.inj h2))) ha hb
theorem zj_iinc6 {v0 v1 v2 v3 v4 v5 : Option Value} {x v : Int32} {d : Int} (hn : pc + 3 = n) (hd : decode cc pc = .ok (.iinc 6 d, 3)) (hp : zB2 v5 = false) (hv : x + Int32.ofInt d = v) (hb9 : 6 < nL) (k : zJG G y cc nL ret R Q X a b n (v0 :: v1 :: v2 :: v3 :: v4 :: v5 :: some (.int v) :: t) st M) : zJG G y cc nL ret R Q X a b pc (v0 :: v1 :: v2 :: v3 :: v4 :: v5 :: some (.int x) :: t) st M := by
  subst hn
  intro la p e s m args below meth c D ad cy A hc H locs ls cells slots hP hS hl ha hb
  obtain ⟨hf, hx, hcb, hr, hml, hown, hts, hlk, het, hA, hi, hai, hK, hks⟩ := id hc
  obtain ⟨k9, hk9⟩ := List.getElem?_of_mem (zPr_mem (ad := ad) (l := v0 :: v1 :: v2 :: v3 :: v4 :: v5 :: some (.int x) :: t) (n := 0) (q := (6, .int x)) |>.mpr ⟨6, .int x, rfl, by simp [zC]⟩)
  refine lv_iinc hx hcb hd (zLR_has hl) hk9 hv hb9 rfl (fun ls' h' => ?_)
  exact k la p e s m args below meth c D ad cy A hc H locs ls' cells slots hP hS (zLR_put1 (l := v0 :: v1 :: v2 :: v3 :: v4 :: v5 :: some (.int x) :: t) (v := .int v) h' (fun j u h h2 => by cases (show j = 5 by omega); exact zB2_cat hp (Option.some.inj h2))) ha hb
theorem zj_iinc7 {v0 v1 v2 v3 v4 v5 v6 : Option Value} {x v : Int32} {d : Int} (hn : pc + 3 = n) (hd : decode cc pc = .ok (.iinc 7 d, 3)) (hp : zB2 v6 = false) (hv : x + Int32.ofInt d = v) (hb9 : 7 < nL) (k : zJG G y cc nL ret R Q X a b n (v0 :: v1 :: v2 :: v3 :: v4 :: v5 :: v6 :: some (.int v) :: t) st M) : zJG G y cc nL ret R Q X a b pc (v0 :: v1 :: v2 :: v3 :: v4 :: v5 :: v6 :: some (.int x) :: t) st M := by
  subst hn
  intro la p e s m args below meth c D ad cy A hc H locs ls cells slots hP hS hl ha hb
  obtain ⟨hf, hx, hcb, hr, hml, hown, hts, hlk, het, hA, hi, hai, hK, hks⟩ := id hc
  obtain ⟨k9, hk9⟩ := List.getElem?_of_mem (zPr_mem (ad := ad) (l := v0 :: v1 :: v2 :: v3 :: v4 :: v5 :: v6 :: some (.int x) :: t) (n := 0) (q := (7, .int x)) |>.mpr ⟨7, .int x, rfl, by simp [zC]⟩)
  refine lv_iinc hx hcb hd (zLR_has hl) hk9 hv hb9 rfl (fun ls' h' => ?_)
  exact k la p e s m args below meth c D ad cy A hc H locs ls' cells slots hP hS (zLR_put1 (l := v0 :: v1 :: v2 :: v3 :: v4 :: v5 :: v6 :: some (.int x) :: t) (v := .int v) h' (fun j u h h2 => by cases (show j = 6 by omega); exact zB2_cat hp (Option.some.inj h2))) ha hb
theorem zj_iinc8 {v0 v1 v2 v3 v4 v5 v6 v7 : Option Value} {x v : Int32} {d : Int} (hn : pc + 3 = n) (hd : decode cc pc = .ok (.iinc 8 d, 3)) (hp : zB2 v7 = false) (hv : x + Int32.ofInt d = v) (hb9 : 8 < nL) (k : zJG G y cc nL ret R Q X a b n (v0 :: v1 :: v2 :: v3 :: v4 :: v5 :: v6 :: v7 :: some (.int v) :: t) st M) : zJG G y cc nL ret R Q X a b pc (v0 :: v1 :: v2 :: v3 :: v4 :: v5 :: v6 :: v7 :: some (.int x) :: t) st M := by
  subst hn
  intro la p e s m args below meth c D ad cy A hc H locs ls cells slots hP hS hl ha hb
  obtain ⟨hf, hx, hcb, hr, hml, hown, hts, hlk, het, hA, hi, hai, hK, hks⟩ := id hc
  obtain ⟨k9, hk9⟩ := List.getElem?_of_mem (zPr_mem (ad := ad) (l := v0 :: v1 :: v2 :: v3 :: v4 :: v5 :: v6 :: v7 :: some (.int x) :: t) (n := 0) (q := (8, .int x)) |>.mpr ⟨8, .int x, rfl, by simp [zC]⟩)
  refine lv_iinc hx hcb hd (zLR_has hl) hk9 hv hb9 rfl (fun ls' h' => ?_)
  exact k la p e s m args below meth c D ad cy A hc H locs ls' cells slots hP hS (zLR_put1 (l := v0 :: v1 :: v2 :: v3 :: v4 :: v5 :: v6 :: v7 :: some (.int x) :: t) (v := .int v) h' (fun j u h h2 => by cases (show j = 7 by omega); exact zB2_cat hp (Option.some.inj h2))) ha hb
theorem zj_iinc9 {v0 v1 v2 v3 v4 v5 v6 v7 v8 : Option Value} {x v : Int32} {d : Int} (hn : pc + 3 = n) (hd : decode cc pc = .ok (.iinc 9 d, 3)) (hp : zB2 v8 = false) (hv : x + Int32.ofInt d = v) (hb9 : 9 < nL) (k : zJG G y cc nL ret R Q X a b n (v0 :: v1 :: v2 :: v3 :: v4 :: v5 :: v6 :: v7 :: v8 :: some (.int v) :: t) st M) : zJG G y cc nL ret R Q X a b pc (v0 :: v1 :: v2 :: v3 :: v4 :: v5 :: v6 :: v7 :: v8 :: some (.int x) :: t) st M := by
  subst hn
  intro la p e s m args below meth c D ad cy A hc H locs ls cells slots hP hS hl ha hb
  obtain ⟨hf, hx, hcb, hr, hml, hown, hts, hlk, het, hA, hi, hai, hK, hks⟩ := id hc
  obtain ⟨k9, hk9⟩ := List.getElem?_of_mem (zPr_mem (ad := ad) (l := v0 :: v1 :: v2 :: v3 :: v4 :: v5 :: v6 :: v7 :: v8 :: some (.int x) :: t) (n := 0) (q := (9, .int x)) |>.mpr ⟨9, .int x, rfl, by simp [zC]⟩)
  refine lv_iinc hx hcb hd (zLR_has hl) hk9 hv hb9 rfl (fun ls' h' => ?_)
  exact k la p e s m args below meth c D ad cy A hc H locs ls' cells slots hP hS (zLR_put1 (l := v0 :: v1 :: v2 :: v3 :: v4 :: v5 :: v6 :: v7 :: v8 :: some (.int x) :: t) (v := .int v) h' (fun j u h h2 => by cases (show j = 8 by omega); exact zB2_cat hp (Option.some.inj h2))) ha hb
theorem zj_iinc10 {v0 v1 v2 v3 v4 v5 v6 v7 v8 v9 : Option Value} {x v : Int32} {d : Int} (hn : pc + 3 = n) (hd : decode cc pc = .ok (.iinc 10 d, 3)) (hp : zB2 v9 = false) (hv : x + Int32.ofInt d = v) (hb9 : 10 < nL) (k : zJG G y cc nL ret R Q X a b n (v0 :: v1 :: v2 :: v3 :: v4 :: v5 :: v6 :: v7 :: v8 :: v9 :: some (.int v) :: t) st M) : zJG G y cc nL ret R Q X a b pc (v0 :: v1 :: v2 :: v3 :: v4 :: v5 :: v6 :: v7 :: v8 :: v9 :: some (.int x) :: t) st M := by
  subst hn
  intro la p e s m args below meth c D ad cy A hc H locs ls cells slots hP hS hl ha hb
  obtain ⟨hf, hx, hcb, hr, hml, hown, hts, hlk, het, hA, hi, hai, hK, hks⟩ := id hc
  obtain ⟨k9, hk9⟩ := List.getElem?_of_mem (zPr_mem (ad := ad) (l := v0 :: v1 :: v2 :: v3 :: v4 :: v5 :: v6 :: v7 :: v8 :: v9 :: some (.int x) :: t) (n := 0) (q := (10, .int x)) |>.mpr ⟨10, .int x, rfl, by simp [zC]⟩)
  refine lv_iinc hx hcb hd (zLR_has hl) hk9 hv hb9 rfl (fun ls' h' => ?_)
  exact k la p e s m args below meth c D ad cy A hc H locs ls' cells slots hP hS (zLR_put1 (l := v0 :: v1 :: v2 :: v3 :: v4 :: v5 :: v6 :: v7 :: v8 :: v9 :: some (.int x) :: t) (v := .int v) h' (fun j u h h2 => by cases (show j = 9 by omega); exact zB2_cat hp (Option.some.inj h2))) ha hb
theorem zj_iinc11 {v0 v1 v2 v3 v4 v5 v6 v7 v8 v9 v10 : Option Value} {x v : Int32} {d : Int} (hn : pc + 3 = n) (hd : decode cc pc = .ok (.iinc 11 d, 3)) (hp : zB2 v10 = false) (hv : x + Int32.ofInt d = v) (hb9 : 11 < nL) (k : zJG G y cc nL ret R Q X a b n (v0 :: v1 :: v2 :: v3 :: v4 :: v5 :: v6 :: v7 :: v8 :: v9 :: v10 :: some (.int v) :: t) st M) : zJG G y cc nL ret R Q X a b pc (v0 :: v1 :: v2 :: v3 :: v4 :: v5 :: v6 :: v7 :: v8 :: v9 :: v10 :: some (.int x) :: t) st M := by
  subst hn
  intro la p e s m args below meth c D ad cy A hc H locs ls cells slots hP hS hl ha hb
  obtain ⟨hf, hx, hcb, hr, hml, hown, hts, hlk, het, hA, hi, hai, hK, hks⟩ := id hc
  obtain ⟨k9, hk9⟩ := List.getElem?_of_mem (zPr_mem (ad := ad) (l := v0 :: v1 :: v2 :: v3 :: v4 :: v5 :: v6 :: v7 :: v8 :: v9 :: v10 :: some (.int x) :: t) (n := 0) (q := (11, .int x)) |>.mpr ⟨11, .int x, rfl, by simp [zC]⟩)
  refine lv_iinc hx hcb hd (zLR_has hl) hk9 hv hb9 rfl (fun ls' h' => ?_)
  exact k la p e s m args below meth c D ad cy A hc H locs ls' cells slots hP hS (zLR_put1 (l := v0 :: v1 :: v2 :: v3 :: v4 :: v5 :: v6 :: v7 :: v8 :: v9 :: v10 :: some (.int x) :: t) (v := .int v) h' (fun j u h h2 => by cases (show j = 10 by omega); exact zB2_cat hp (Option.some.inj h2))) ha hb
theorem zj_if_eq {x : Int32} {off : Int} {tgt : Nat} (hn : pc + 3 = n) (hd : decode cc pc = .ok (.ifCond .eq off, 3)) (ht : (pc : Int) + off = (tgt : Int)) (kt : x = 0 → zJG G y cc nL ret R Q X a b tgt l st M) (kf : ¬ (x = 0) → zJG G y cc nL ret R Q X a b n l st M) : zJG G y cc nL ret R Q X a b pc l (.int x :: st) M := by
  subst hn
  intro la p e s m args below meth c D ad cy A hc H locs ls cells slots hP hS hl ha hb
  obtain ⟨hf, hx, hcb, hr, hml, hown, hts, hlk, het, hA, hi, hai, hK, hks⟩ := id hc
  refine lv_if_eq hx hcb hd ht (fun h => ?_) (fun h => ?_)
  · exact kt (by first | exact h | (rw [ge_iff_le] at h; exact h)) la p e s m args below meth c D ad cy A hc H locs ls cells slots hP hS hl ha hb
  · exact kf (by first | exact h | (rw [ge_iff_le] at h; exact h)) la p e s m args below meth c D ad cy A hc H locs ls cells slots hP hS hl ha hb
theorem zj_icmp_eq {x z : Int32} {off : Int} {tgt : Nat} (hn : pc + 3 = n) (hd : decode cc pc = .ok (.if_icmp .eq off, 3)) (ht : (pc : Int) + off = (tgt : Int)) (kt : x = z → zJG G y cc nL ret R Q X a b tgt l st M) (kf : ¬ (x = z) → zJG G y cc nL ret R Q X a b n l st M) : zJG G y cc nL ret R Q X a b pc l (.int z :: .int x :: st) M := by
  subst hn
  intro la p e s m args below meth c D ad cy A hc H locs ls cells slots hP hS hl ha hb
  obtain ⟨hf, hx, hcb, hr, hml, hown, hts, hlk, het, hA, hi, hai, hK, hks⟩ := id hc
  refine lv_icmp_eq hx hcb hd ht (fun h => ?_) (fun h => ?_)
  · exact kt h la p e s m args below meth c D ad cy A hc H locs ls cells slots hP hS hl ha hb
  · exact kf h la p e s m args below meth c D ad cy A hc H locs ls cells slots hP hS hl ha hb
theorem zj_if_lt {x : Int32} {off : Int} {tgt : Nat} (hn : pc + 3 = n) (hd : decode cc pc = .ok (.ifCond .lt off, 3)) (ht : (pc : Int) + off = (tgt : Int)) (kt : x < 0 → zJG G y cc nL ret R Q X a b tgt l st M) (kf : ¬ (x < 0) → zJG G y cc nL ret R Q X a b n l st M) : zJG G y cc nL ret R Q X a b pc l (.int x :: st) M := by
  subst hn
  intro la p e s m args below meth c D ad cy A hc H locs ls cells slots hP hS hl ha hb
  obtain ⟨hf, hx, hcb, hr, hml, hown, hts, hlk, het, hA, hi, hai, hK, hks⟩ := id hc
  refine lv_if_lt hx hcb hd ht (fun h => ?_) (fun h => ?_)
  · exact kt (by first | exact h | (rw [ge_iff_le] at h; exact h)) la p e s m args below meth c D ad cy A hc H locs ls cells slots hP hS hl ha hb
  · exact kf (by first | exact h | (rw [ge_iff_le] at h; exact h)) la p e s m args below meth c D ad cy A hc H locs ls cells slots hP hS hl ha hb
theorem zj_icmp_lt {x z : Int32} {off : Int} {tgt : Nat} (hn : pc + 3 = n) (hd : decode cc pc = .ok (.if_icmp .lt off, 3)) (ht : (pc : Int) + off = (tgt : Int)) (kt : x < z → zJG G y cc nL ret R Q X a b tgt l st M) (kf : ¬ (x < z) → zJG G y cc nL ret R Q X a b n l st M) : zJG G y cc nL ret R Q X a b pc l (.int z :: .int x :: st) M := by
  subst hn
  intro la p e s m args below meth c D ad cy A hc H locs ls cells slots hP hS hl ha hb
  obtain ⟨hf, hx, hcb, hr, hml, hown, hts, hlk, het, hA, hi, hai, hK, hks⟩ := id hc
  refine lv_icmp_lt hx hcb hd ht (fun h => ?_) (fun h => ?_)
  · exact kt h la p e s m args below meth c D ad cy A hc H locs ls cells slots hP hS hl ha hb
  · exact kf h la p e s m args below meth c D ad cy A hc H locs ls cells slots hP hS hl ha hb
theorem zj_if_ge {x : Int32} {off : Int} {tgt : Nat} (hn : pc + 3 = n) (hd : decode cc pc = .ok (.ifCond .ge off, 3)) (ht : (pc : Int) + off = (tgt : Int)) (kt : 0 ≤ x → zJG G y cc nL ret R Q X a b tgt l st M) (kf : ¬ (0 ≤ x) → zJG G y cc nL ret R Q X a b n l st M) : zJG G y cc nL ret R Q X a b pc l (.int x :: st) M := by
  subst hn
  intro la p e s m args below meth c D ad cy A hc H locs ls cells slots hP hS hl ha hb
  obtain ⟨hf, hx, hcb, hr, hml, hown, hts, hlk, het, hA, hi, hai, hK, hks⟩ := id hc
  refine lv_if_ge hx hcb hd ht (fun h => ?_) (fun h => ?_)
  · exact kt (by first | exact h | (rw [ge_iff_le] at h; exact h)) la p e s m args below meth c D ad cy A hc H locs ls cells slots hP hS hl ha hb
  · exact kf (by first | exact h | (rw [ge_iff_le] at h; exact h)) la p e s m args below meth c D ad cy A hc H locs ls cells slots hP hS hl ha hb
theorem zj_icmp_ge {x z : Int32} {off : Int} {tgt : Nat} (hn : pc + 3 = n) (hd : decode cc pc = .ok (.if_icmp .ge off, 3)) (ht : (pc : Int) + off = (tgt : Int)) (kt : z ≤ x → zJG G y cc nL ret R Q X a b tgt l st M) (kf : ¬ (z ≤ x) → zJG G y cc nL ret R Q X a b n l st M) : zJG G y cc nL ret R Q X a b pc l (.int z :: .int x :: st) M := by
  subst hn
  intro la p e s m args below meth c D ad cy A hc H locs ls cells slots hP hS hl ha hb
  obtain ⟨hf, hx, hcb, hr, hml, hown, hts, hlk, het, hA, hi, hai, hK, hks⟩ := id hc
  refine lv_icmp_ge hx hcb hd ht (fun h => ?_) (fun h => ?_)
  · exact kt h la p e s m args below meth c D ad cy A hc H locs ls cells slots hP hS hl ha hb
  · exact kf h la p e s m args below meth c D ad cy A hc H locs ls cells slots hP hS hl ha hb
theorem zj_if_gt {x : Int32} {off : Int} {tgt : Nat} (hn : pc + 3 = n) (hd : decode cc pc = .ok (.ifCond .gt off, 3)) (ht : (pc : Int) + off = (tgt : Int)) (kt : 0 < x → zJG G y cc nL ret R Q X a b tgt l st M) (kf : ¬ (0 < x) → zJG G y cc nL ret R Q X a b n l st M) : zJG G y cc nL ret R Q X a b pc l (.int x :: st) M := by
  subst hn
  intro la p e s m args below meth c D ad cy A hc H locs ls cells slots hP hS hl ha hb
  obtain ⟨hf, hx, hcb, hr, hml, hown, hts, hlk, het, hA, hi, hai, hK, hks⟩ := id hc
  refine lv_if_gt hx hcb hd ht (fun h => ?_) (fun h => ?_)
  · exact kt (by first | exact h | (rw [ge_iff_le] at h; exact h)) la p e s m args below meth c D ad cy A hc H locs ls cells slots hP hS hl ha hb
  · exact kf (by first | exact h | (rw [ge_iff_le] at h; exact h)) la p e s m args below meth c D ad cy A hc H locs ls cells slots hP hS hl ha hb
theorem zj_icmp_gt {x z : Int32} {off : Int} {tgt : Nat} (hn : pc + 3 = n) (hd : decode cc pc = .ok (.if_icmp .gt off, 3)) (ht : (pc : Int) + off = (tgt : Int)) (kt : z < x → zJG G y cc nL ret R Q X a b tgt l st M) (kf : ¬ (z < x) → zJG G y cc nL ret R Q X a b n l st M) : zJG G y cc nL ret R Q X a b pc l (.int z :: .int x :: st) M := by
  subst hn
  intro la p e s m args below meth c D ad cy A hc H locs ls cells slots hP hS hl ha hb
  obtain ⟨hf, hx, hcb, hr, hml, hown, hts, hlk, het, hA, hi, hai, hK, hks⟩ := id hc
  refine lv_icmp_gt hx hcb hd ht (fun h => ?_) (fun h => ?_)
  · exact kt h la p e s m args below meth c D ad cy A hc H locs ls cells slots hP hS hl ha hb
  · exact kf h la p e s m args below meth c D ad cy A hc H locs ls cells slots hP hS hl ha hb
theorem zj_if_le {x : Int32} {off : Int} {tgt : Nat} (hn : pc + 3 = n) (hd : decode cc pc = .ok (.ifCond .le off, 3)) (ht : (pc : Int) + off = (tgt : Int)) (kt : x ≤ 0 → zJG G y cc nL ret R Q X a b tgt l st M) (kf : ¬ (x ≤ 0) → zJG G y cc nL ret R Q X a b n l st M) : zJG G y cc nL ret R Q X a b pc l (.int x :: st) M := by
  subst hn
  intro la p e s m args below meth c D ad cy A hc H locs ls cells slots hP hS hl ha hb
  obtain ⟨hf, hx, hcb, hr, hml, hown, hts, hlk, het, hA, hi, hai, hK, hks⟩ := id hc
  refine lv_if_le hx hcb hd ht (fun h => ?_) (fun h => ?_)
  · exact kt (by first | exact h | (rw [ge_iff_le] at h; exact h)) la p e s m args below meth c D ad cy A hc H locs ls cells slots hP hS hl ha hb
  · exact kf (by first | exact h | (rw [ge_iff_le] at h; exact h)) la p e s m args below meth c D ad cy A hc H locs ls cells slots hP hS hl ha hb
theorem zj_icmp_le {x z : Int32} {off : Int} {tgt : Nat} (hn : pc + 3 = n) (hd : decode cc pc = .ok (.if_icmp .le off, 3)) (ht : (pc : Int) + off = (tgt : Int)) (kt : x ≤ z → zJG G y cc nL ret R Q X a b tgt l st M) (kf : ¬ (x ≤ z) → zJG G y cc nL ret R Q X a b n l st M) : zJG G y cc nL ret R Q X a b pc l (.int z :: .int x :: st) M := by
  subst hn
  intro la p e s m args below meth c D ad cy A hc H locs ls cells slots hP hS hl ha hb
  obtain ⟨hf, hx, hcb, hr, hml, hown, hts, hlk, het, hA, hi, hai, hK, hks⟩ := id hc
  refine lv_icmp_le hx hcb hd ht (fun h => ?_) (fun h => ?_)
  · exact kt h la p e s m args below meth c D ad cy A hc H locs ls cells slots hP hS hl ha hb
  · exact kf h la p e s m args below meth c D ad cy A hc H locs ls cells slots hP hS hl ha hb
theorem zj_if_ne {x : Int32} {off : Int} {tgt : Nat} (hn : pc + 3 = n) (hd : decode cc pc = .ok (.ifCond .ne off, 3)) (ht : (pc : Int) + off = (tgt : Int)) (kt : ¬ x = 0 → zJG G y cc nL ret R Q X a b tgt l st M) (kf : x = 0 → zJG G y cc nL ret R Q X a b n l st M) : zJG G y cc nL ret R Q X a b pc l (.int x :: st) M := by
  subst hn
  intro la p e s m args below meth c D ad cy A hc H locs ls cells slots hP hS hl ha hb
  obtain ⟨hf, hx, hcb, hr, hml, hown, hts, hlk, het, hA, hi, hai, hK, hks⟩ := id hc
  refine lv_if_ne hx hcb hd ht (fun h => ?_) (fun h => ?_)
  · exact kt h la p e s m args below meth c D ad cy A hc H locs ls cells slots hP hS hl ha hb
  · exact kf (by first | exact h | exact Classical.not_not.mp h) la p e s m args below meth c D ad cy A hc H locs ls cells slots hP hS hl ha hb
theorem zj_icmp_ne {x z : Int32} {off : Int} {tgt : Nat} (hn : pc + 3 = n) (hd : decode cc pc = .ok (.if_icmp .ne off, 3)) (ht : (pc : Int) + off = (tgt : Int)) (kt : ¬ x = z → zJG G y cc nL ret R Q X a b tgt l st M) (kf : x = z → zJG G y cc nL ret R Q X a b n l st M) : zJG G y cc nL ret R Q X a b pc l (.int z :: .int x :: st) M := by
  subst hn
  intro la p e s m args below meth c D ad cy A hc H locs ls cells slots hP hS hl ha hb
  obtain ⟨hf, hx, hcb, hr, hml, hown, hts, hlk, het, hA, hi, hai, hK, hks⟩ := id hc
  refine lv_icmp_ne hx hcb hd ht (fun h => ?_) (fun h => ?_)
  · exact kt h la p e s m args below meth c D ad cy A hc H locs ls cells slots hP hS hl ha hb
  · exact kf (by first | exact h | exact Classical.not_not.mp h) la p e s m args below meth c D ad cy A hc H locs ls cells slots hP hS hl ha hb
theorem zj_goto {off : Int} {tgt : Nat} (hd : decode cc pc = .ok (.goto off, 3)) (ht : (pc : Int) + off = (tgt : Int)) (k : zJG G y cc nL ret R Q X a b tgt l st M) : zJG G y cc nL ret R Q X a b pc l st M := by
  intro la p e s m args below meth c D ad cy A hc H locs ls cells slots hP hS hl ha hb
  obtain ⟨hf, hx, hcb, hr, hml, hown, hts, hlk, het, hA, hi, hai, hK, hks⟩ := id hc
  refine lv_goto hx hcb hd ht ?_
  exact k la p e s m args below meth c D ad cy A hc H locs ls cells slots hP hS hl ha hb
theorem zj_ifnull {x : Nat} {off : Int} (hn : pc + 3 = n) (hd : decode cc pc = .ok (.ifnull off, 3)) (k : zJG G y cc nL ret R Q X a b n l st M) : zJG G y cc nL ret R Q X a b pc l (.ref x :: st) M := by
  subst hn
  intro la p e s m args below meth c D ad cy A hc H locs ls cells slots hP hS hl ha hb
  obtain ⟨hf, hx, hcb, hr, hml, hown, hts, hlk, het, hA, hi, hai, hK, hks⟩ := id hc
  refine lv_ifnull hx hcb hd ?_
  exact k la p e s m args below meth c D ad cy A hc H locs ls cells slots hP hS hl ha hb
theorem zj_ifnullN {off : Int} {tgt : Nat} (hd : decode cc pc = .ok (.ifnull off, 3)) (ht : (pc : Int) + off = (tgt : Int)) (k : zJG G y cc nL ret R Q X a b tgt l st M) : zJG G y cc nL ret R Q X a b pc l (.null :: st) M := by
  intro la p e s m args below meth c D ad cy A hc H locs ls cells slots hP hS hl ha hb
  obtain ⟨hf, hx, hcb, hr, hml, hown, hts, hlk, het, hA, hi, hai, hK, hks⟩ := id hc
  refine lv_ifnullN hx hcb hd ht ?_
  exact k la p e s m args below meth c D ad cy A hc H locs ls cells slots hP hS hl ha hb
theorem zj_null (hn : pc + 1 = n) (hd : decode cc pc = .ok (.aconst_null, 1)) (k : zJG G y cc nL ret R Q X a b n l (.null :: st) M) : zJG G y cc nL ret R Q X a b pc l st M := by
  subst hn
  intro la p e s m args below meth c D ad cy A hc H locs ls cells slots hP hS hl ha hb
  obtain ⟨hf, hx, hcb, hr, hml, hown, hts, hlk, het, hA, hi, hai, hK, hks⟩ := id hc
  refine lv_null hx hcb hd ?_
  exact k la p e s m args below meth c D ad cy A hc H locs ls cells slots hP hS hl ha hb
def zSf (own : String) (idx ci j : Nat) : Prop := ∃ (C : String) (T : u_T) (N : Nat), vwCl[ci]? = some (C, T, N) ∧ j < N ∧ (∀ w ∈ u_ws C T N, w ∈ zTB) ∧ (Cond.fieldLink own idx (T j).1 (T j).2.1 (T j).2.2.1 ∈ zTB ∨ ∃ host, Cond.fieldLinkNest own idx (T j).1 (T j).2.1 (T j).2.2.1 host ∈ zNl)
def zSp (own : String) (idx ci j : Nat) (ty : FieldType) : Prop := ∃ (C : String) (T : u_T) (N : Nat) (ty0 : Nat → FieldType), vwCl[ci]? = some (C, T, N) ∧ j < N ∧ (∀ w ∈ u_ws C T N, w ∈ zTB) ∧ (Cond.fieldLink own idx (T j).1 (T j).2.1 (T j).2.2.1 ∈ zTB ∨ ∃ host, Cond.fieldLinkNest own idx (T j).1 (T j).2.1 (T j).2.2.1 host ∈ zNl) ∧
  (∀ k, k < N → parseFieldDescriptor (T k).2.2.1 = some (ty0 k)) ∧ (∀ a, a < N → ∀ b, b < N → a ≠ b → (T a).2.1 ≠ (T b).2.1) ∧ (T j).2.2.2 = false ∧ parseFieldDescriptor (T j).2.2.1 = some ty
theorem zE_obj {ad : Nat → Nat} {cy : Nat → ClassId} {M : zM} {k ci : Nat} (ht : zTy k = ci) (hci : ci < 20) : zE ad cy M k = .inr (ci, (List.range (zNf ci)).map (fun j => zFld ad M ci k j)) := by
  unfold zE
  rw [ht, if_neg (by omega), if_neg (by omega), if_neg (by omega), if_neg (by omega), if_neg (by omega)]
theorem zFs_at {ad : Nat → Nat} {M : zM} {ci k j : Nat} (hj : j < zNf ci) : ((List.range (zNf ci)).map (fun j => zFld ad M ci k j))[j]? = some (zFld ad M ci k j) := by
  rw [List.getElem?_map, List.getElem?_range hj]
  rfl
theorem zFk_lt {ci j : Nat} (h : zFk ci j < 3) : j < zNf ci ∧ ci < 20 := by
  have h1 : j < zNf ci := by
    rcases Nat.lt_or_ge j (zNf ci) with q | q
    · exact q
    · exfalso
      unfold zFk at h
      unfold zNf at q
      rw [List.getD_eq_getElem?_getD, List.getElem?_eq_none q] at h
      simp at h
  refine ⟨h1, ?_⟩
  rcases Nat.lt_or_ge ci 20 with q | q
  · exact q
  · exfalso
    unfold zNf at h1
    rw [List.getD_eq_getElem?_getD, List.getElem?_eq_none (by simp [zFkL]; omega)] at h1
    simp at h1
theorem zj_getf {idx ci j k : Nat} (hn : pc + 3 = n) (hd : decode cc pc = .ok (.getfield idx, 3)) (S : zSf y.cls idx ci j) (hk : k < 133) (ht : zTy k = ci) (hkd : zFk ci j < 3) (v : Value) (hv : ∀ ad, zC ad v = zFld ad M ci k j) (K : zJG G y cc nL ret R Q X a b n l (v :: st) M) : zJG G y cc nL ret R Q X a b pc l (.ref k :: st) M := by
  subst hn
  intro la p e s m args below meth c D ad cy A hc H locs ls cells slots hP hS hl ha hb
  obtain ⟨hf, hx, hcb, hr, hml, hown, hts, hlk, het, hA, hi, hai, hK, hks⟩ := id hc
  obtain ⟨C, T, N, hC, hj, hin, hlk9⟩ := S
  obtain ⟨hj9, hci⟩ := zFk_lt hkd
  have he : (zWl ad cy M)[k]? = some (ad k, .inr (ci, (List.range (zNf ci)).map (fun j => zFld ad M ci k j))) := by rw [zWl_get hk, zE_obj ht hci]
  have hv2 : ((List.range (zNf ci)).map (fun j => zFld ad M ci k j))[j]? = some (zC ad v) := by rw [zFs_at hj9, hv ad]
  rcases hlk9 with h9 | ⟨host, h9⟩
  · exact va_get hx hcb hts hin hown hK hP k he hC j hj (hts _ h9) (fun _ h => h) hv2 hd (K la p e s m args below meth c D ad cy A hc H locs ls cells slots hP hS hl ha hb)
  · exact va_getN hx hcb hts hin hown hK hP k he hC j hj (hks.nest h9) (fun _ h => h) hv2 hd (K la p e s m args below meth c D ad cy A hc H locs ls cells slots hP hS hl ha hb)
theorem zj_geti {idx ci j k : Nat} (hn : pc + 3 = n) (hd : decode cc pc = .ok (.getfield idx, 3)) (S : zSf y.cls idx ci j) (hkd : zFk ci j = 0) (hk : k < 133) (ht : zTy k = ci) (K : zJG G y cc nL ret R Q X a b n l (.int (M.1 k j) :: st) M) : zJG G y cc nL ret R Q X a b pc l (.ref k :: st) M :=
  zj_getf hn hd S hk ht (by omega) (.int (M.1 k j)) (fun ad => by unfold zFld; rw [if_pos hkd]; rfl) K
theorem zj_getl {idx ci j k : Nat} (hn : pc + 3 = n) (hd : decode cc pc = .ok (.getfield idx, 3)) (S : zSf y.cls idx ci j) (hkd : zFk ci j = 1) (hk : k < 133) (ht : zTy k = ci) (K : zJG G y cc nL ret R Q X a b n l (.long (M.2.1 k j) :: st) M) : zJG G y cc nL ret R Q X a b pc l (.ref k :: st) M :=
  zj_getf hn hd S hk ht (by omega) (.long (M.2.1 k j)) (fun ad => by unfold zFld; rw [if_neg (by omega), if_pos hkd]; rfl) K
theorem zj_getr {idx ci j k q : Nat} (hn : pc + 3 = n) (hd : decode cc pc = .ok (.getfield idx, 3)) (S : zSf y.cls idx ci j) (hkd : zFk ci j = 2) (hk : k < 133) (ht : zTy k = ci) (hq : zLay ci j k M.2.2.2 = q) (K : zJG G y cc nL ret R Q X a b n l (.ref q :: st) M) : zJG G y cc nL ret R Q X a b pc l (.ref k :: st) M :=
  zj_getf hn hd S hk ht (by omega) (.ref q) (fun ad => by unfold zFld; rw [if_neg (by omega), if_neg (by omega), hq]; rfl) K
theorem zFs_set {ad : Nat → Nat} {M M' : zM} {ci k j : Nat} {v : Value} (h1 : zFld ad M' ci k j = v) (h2 : ∀ i, i ≠ j → zFld ad M' ci k i = zFld ad M ci k i) : ((List.range (zNf ci)).map (fun j => zFld ad M ci k j)).set j v = (List.range (zNf ci)).map (fun j => zFld ad M' ci k j) := by
  apply List.ext_getElem?
  intro i
  rw [List.getElem?_set]
  by_cases hi : j = i
  · subst hi
    rw [if_pos rfl]
    by_cases hj : j < zNf ci
    · rw [if_pos (by simpa using hj), zFs_at hj, h1]
    · rw [if_neg (by simpa using hj)]
      simp [hj]
  · rw [if_neg hi]
    by_cases h3 : i < zNf ci
    · rw [zFs_at h3, zFs_at h3, h2 i (fun q => hi q.symm)]
    · simp [h3]
theorem zj_putf {idx ci j k : Nat} {ty : FieldType} {v : Value} {M' : zM} (hn : pc + 3 = n) (hd : decode cc pc = .ok (.putfield idx, 3)) (S : zSp y.cls idx ci j ty) (hk : k < 133) (ht : zTy k = ci) (hkd : zFk ci j < 3) (hnr : ∀ ad, narrow ty (zC ad v) = zC ad v ∧ fits ty (zC ad v) = true)
    (h1 : ∀ ad, zFld ad M' ci k j = zC ad v) (h2 : ∀ ad i, i ≠ j → zFld ad M' ci k i = zFld ad M ci k i) (h3 : ∀ ad cy i, i ≠ k → zE ad cy M' i = zE ad cy M i) (K : zJG G y cc nL ret R Q X a b n l st M') : zJG G y cc nL ret R Q X a b pc l (v :: .ref k :: st) M := by
  subst hn
  intro la p e s m args below meth c D ad cy A hc H locs ls cells slots hP hS hl ha hb
  obtain ⟨hf, hx, hcb, hr, hml, hown, hts, hlk, het, hA, hi, hai, hK, hks⟩ := id hc
  obtain ⟨C, T, N, ty0, hC, hj, hin, hlk9, g1, g2, g3, g4⟩ := S
  obtain ⟨hj9, hci⟩ := zFk_lt hkd
  have he : (zWl ad cy M)[k]? = some (ad k, .inr (ci, (List.range (zNf ci)).map (fun j => zFld ad M ci k j))) := by rw [zWl_get hk, zE_obj ht hci]
  have hset : (zWl ad cy M).set k (ad k, .inr (ci, ((List.range (zNf ci)).map (fun j => zFld ad M ci k j)).set j (zC ad v))) = zWl ad cy M' := by
    rw [zFs_set (h1 ad) (h2 ad)]
    exact zWl_put (zE_obj ht hci) (h3 ad cy)
  rcases hlk9 with h9 | ⟨host, h9⟩
  · refine va_put hx hcb hts hin ty0 g1 g2 hown hK hP (zWl_D hi hai) hS k he hC j hj (hts _ h9) (fun _ h => h) g3 g4 (hnr ad).1 (hnr ad).2 (by simpa using hj9) hd (fun H1 locs1 hP1 _ hS1 => ?_)
    rw [hset] at hP1
    exact K la p e s m args below meth c D ad cy A hc H1 locs1 ls cells slots hP1 hS1 hl ha hb
  · refine va_putN hx hcb hts hin ty0 g1 g2 hown hK hP (zWl_D hi hai) hS k he hC j hj (hks.nest h9) (fun _ h => h) g3 g4 (hnr ad).1 (hnr ad).2 (by simpa using hj9) hd (fun H1 locs1 hP1 _ hS1 => ?_)
    rw [hset] at hP1
    exact K la p e s m args below meth c D ad cy A hc H1 locs1 ls cells slots hP1 hS1 hl ha hb
theorem zE_offI {ad : Nat → Nat} {cy : Nat → ClassId} {M : zM} {k j i : Nat} {v : Int32} (h : i ≠ k) : zE ad cy (zU M.1 k j v, M.2) i = zE ad cy M i := by
  unfold zE zFld
  simp only [zU_off h]
theorem zE_offL {ad : Nat → Nat} {cy : Nat → ClassId} {M : zM} {k j i : Nat} {v : Int64} (h : i ≠ k) : zE ad cy (M.1, zU M.2.1 k j v, M.2.2) i = zE ad cy M i := by
  unfold zE zFld
  simp only [zU_off h]
theorem zE_offD {ad : Nat → Nat} {cy : Nat → ClassId} {M : zM} {k j i : Nat} {v : UInt64} (h : i ≠ k) : zE ad cy (M.1, M.2.1, zU M.2.2.1 k j v, M.2.2.2) i = zE ad cy M i := by
  unfold zE zFld
  simp only [zU_off h]
theorem zj_puti {idx ci j k : Nat} {x : Int32} (hn : pc + 3 = n) (hd : decode cc pc = .ok (.putfield idx, 3)) (S : zSp y.cls idx ci j .int) (hkd : zFk ci j = 0) (hk : k < 133) (ht : zTy k = ci) (K : zJG G y cc nL ret R Q X a b n l st (zU M.1 k j x, M.2)) : zJG G y cc nL ret R Q X a b pc l (.int x :: .ref k :: st) M := by
  refine zj_putf hn hd S hk ht (by omega) (fun ad => ⟨rfl, rfl⟩) (fun ad => ?_) (fun ad i hi => ?_) (fun ad cy i h => zE_offI h) K
  · unfold zFld
    rw [if_pos hkd]
    simp [zU, zC]
  · unfold zFld
    simp only [zU_at]
    rw [if_neg hi]
theorem zj_putl {idx ci j k : Nat} {x : Int64} (hn : pc + 3 = n) (hd : decode cc pc = .ok (.putfield idx, 3)) (S : zSp y.cls idx ci j .long) (hkd : zFk ci j = 1) (hk : k < 133) (ht : zTy k = ci) (K : zJG G y cc nL ret R Q X a b n l st (M.1, zU M.2.1 k j x, M.2.2)) : zJG G y cc nL ret R Q X a b pc l (.long x :: .ref k :: st) M := by
  refine zj_putf hn hd S hk ht (by omega) (fun ad => ⟨rfl, rfl⟩) (fun ad => ?_) (fun ad i hi => ?_) (fun ad cy i h => zE_offL h) K
  · unfold zFld
    rw [if_neg (by omega), if_pos hkd]
    simp [zU, zC]
  · unfold zFld
    simp only [zU_at]
    rw [if_neg hi]
theorem zLay_now {ci j k w w' : Nat} (h : ci < 9) : zLay ci j k w = zLay ci j k w' := by
  have h1 : ci = 0 ∨ ci = 1 ∨ ci = 2 ∨ ci = 3 ∨ ci = 4 ∨ ci = 5 ∨ ci = 6 ∨ ci = 7 ∨ ci = 8 := by omega
  rcases h1 with rfl | rfl | rfl | rfl | rfl | rfl | rfl | rfl | rfl <;> simp [zLay]
/-- the reference's row that it looks at -/
theorem zj_putnow {idx k : Nat} (hn : pc + 3 = n) (hd : decode cc pc = .ok (.putfield idx, 3)) (S : zSp y.cls idx 9 3 (.array .int)) (K : zJG G y cc nL ret R Q X a b n l st (M.1, M.2.1, M.2.2.1, k)) : zJG G y cc nL ret R Q X a b pc l (.ref k :: .ref 118 :: st) M := by
  refine zj_putf hn hd S (by decide) (by decide) (by decide) (fun ad => ⟨rfl, rfl⟩) (fun ad => ?_) (fun ad i hi => ?_) (fun ad cy i h => ?_) K
  · rfl
  · unfold zFld
    by_cases h0 : zFk 9 i = 0
    · rw [if_pos h0, if_pos h0]
    · rw [if_neg h0, if_neg h0]
      by_cases h1 : zFk 9 i = 1
      · rw [if_pos h1, if_pos h1]
      · rw [if_neg h1, if_neg h1]
        unfold zLay
        simp [hi]
  · have hne : zTy i ≠ 9 := by
      intro h9
      apply h
      unfold zTy at h9
      split at h9
      · split at h9
        · cases h9
        · split at h9 <;> cases h9
      · rcases Nat.lt_or_ge i 133 with q | q
        · have h7 : i - 99 < 34 := by omega
          have h8 : ∀ q, q < 34 → zTyL.getD q 99 = 9 → q = 19 := by decide
          have := h8 _ h7 h9
          omega
        · rw [List.getD_eq_getElem?_getD, List.getElem?_eq_none (by simp [zTyL]; omega)] at h9
          cases h9
    have hm : (List.range (zNf (zTy i))).map (fun j => zFld ad (M.1, M.2.1, M.2.2.1, k) (zTy i) i j) = (List.range (zNf (zTy i))).map (fun j => zFld ad M (zTy i) i j) := by
      apply List.map_congr_left
      intro j hj
      have h10 : zTy i < 10 := by
        rcases Nat.lt_or_ge (zTy i) 10 with q | q
        · exact q
        · exfalso
          have h1 := List.mem_range.mp hj
          unfold zNf at h1
          rw [List.getD_eq_getElem?_getD, List.getElem?_eq_none (by simp [zFkL]; omega)] at h1
          simp at h1
      unfold zFld
      rw [zLay_now (ci := zTy i) (w := k) (w' := M.2.2.2) (by omega)]
    unfold zE
    rw [hm]
theorem zE20 {ad : Nat → Nat} {cy : Nat → ClassId} {M : zM} {k : Nat} (h : zTy k = 20) : zE ad cy M k = .inl (cy 0, zLen k, .inl (M.1 k)) := by
  unfold zE
  rw [if_pos h]
theorem zE21 {ad : Nat → Nat} {cy : Nat → ClassId} {M : zM} {k : Nat} (h : zTy k = 21) : zE ad cy M k = .inl (cy 1, zLen k, .inl (M.1 k)) := by
  unfold zE
  rw [if_neg (by omega), if_pos h]
theorem zE22 {ad : Nat → Nat} {cy : Nat → ClassId} {M : zM} {k : Nat} (h : zTy k = 22) : zE ad cy M k = .inl (cy 2, zLen k, .inr (.inl (M.2.1 k))) := by
  unfold zE
  rw [if_neg (by omega), if_neg (by omega), if_pos h]
theorem zE23 {ad : Nat → Nat} {cy : Nat → ClassId} {M : zM} {k : Nat} (h : zTy k = 23) : zE ad cy M k = .inl (cy 3, zLen k, .inr (.inr (.inr (.inl (M.2.2.1 k))))) := by
  unfold zE
  rw [if_neg (by omega), if_neg (by omega), if_neg (by omega), if_pos h]
theorem zE24 {ad : Nat → Nat} {cy : Nat → ClassId} {M : zM} {k : Nat} (h : zTy k = 24) : zE ad cy M k = .inl (cy 4, 8, .inr (.inr (.inr (.inr (fun i => some (ad (27 + 9 * i))))))) := by
  unfold zE
  rw [if_neg (by omega), if_neg (by omega), if_neg (by omega), if_neg (by omega), if_pos h]
theorem zj_iaload {i : Int32} {k : Nat} (hn : pc + 1 = n) (hd : decode cc pc = .ok (.iaload, 1)) (hk : k < 133) (ht : zTy k = 20) (hin : vp_in i (zLen k)) (K : zJG G y cc nL ret R Q X a b n l (.int (M.1 k i.toNatClampNeg) :: st) M) : zJG G y cc nL ret R Q X a b pc l (.int i :: .ref k :: st) M := by
  subst hn
  intro la p e s m args below meth c D ad cy A hc H locs ls cells slots hP hS hl ha hb
  obtain ⟨hf, hx, hcb, hr, hml, hown, hts, hlk, het, hA, hi, hai, hK, hks⟩ := id hc
  exact va_iald hx hcb hK hP k 0 (by rw [zWl_get hk, zE20 ht]) rfl hin hd (K la p e s m args below meth c D ad cy A hc H locs ls cells slots hP hS hl ha hb)
theorem zj_baload {i : Int32} {k : Nat} (hn : pc + 1 = n) (hd : decode cc pc = .ok (.baload, 1)) (hk : k < 133) (ht : zTy k = 21) (hin : vp_in i (zLen k)) (K : zJG G y cc nL ret R Q X a b n l (.int (M.1 k i.toNatClampNeg) :: st) M) : zJG G y cc nL ret R Q X a b pc l (.int i :: .ref k :: st) M := by
  subst hn
  intro la p e s m args below meth c D ad cy A hc H locs ls cells slots hP hS hl ha hb
  obtain ⟨hf, hx, hcb, hr, hml, hown, hts, hlk, het, hA, hi, hai, hK, hks⟩ := id hc
  exact va_bald hx hcb hK hP k 1 (by rw [zWl_get hk, zE21 ht]) rfl hin hd (K la p e s m args below meth c D ad cy A hc H locs ls cells slots hP hS hl ha hb)
theorem zj_laload {i : Int32} {k : Nat} (hn : pc + 1 = n) (hd : decode cc pc = .ok (.laload, 1)) (hk : k < 133) (ht : zTy k = 22) (hin : vp_in i (zLen k)) (K : zJG G y cc nL ret R Q X a b n l (.long (M.2.1 k i.toNatClampNeg) :: st) M) : zJG G y cc nL ret R Q X a b pc l (.int i :: .ref k :: st) M := by
  subst hn
  intro la p e s m args below meth c D ad cy A hc H locs ls cells slots hP hS hl ha hb
  obtain ⟨hf, hx, hcb, hr, hml, hown, hts, hlk, het, hA, hi, hai, hK, hks⟩ := id hc
  exact va_lald hx hcb hK hP k 2 (by rw [zWl_get hk, zE22 ht]) rfl hin hd (K la p e s m args below meth c D ad cy A hc H locs ls cells slots hP hS hl ha hb)
theorem zj_daload {i : Int32} {k : Nat} (hn : pc + 1 = n) (hd : decode cc pc = .ok (.daload, 1)) (hk : k < 133) (ht : zTy k = 23) (hin : vp_in i (zLen k)) (K : zJG G y cc nL ret R Q X a b n l (.double (M.2.2.1 k i.toNatClampNeg) :: st) M) : zJG G y cc nL ret R Q X a b pc l (.int i :: .ref k :: st) M := by
  subst hn
  intro la p e s m args below meth c D ad cy A hc H locs ls cells slots hP hS hl ha hb
  obtain ⟨hf, hx, hcb, hr, hml, hown, hts, hlk, het, hA, hi, hai, hK, hks⟩ := id hc
  exact va_dald hx hcb hK hP k 3 (by rw [zWl_get hk, zE23 ht]) rfl hin hd (K la p e s m args below meth c D ad cy A hc H locs ls cells slots hP hS hl ha hb)
theorem zj_aaload {i : Int32} {k j : Nat} (hn : pc + 1 = n) (hd : decode cc pc = .ok (.aaload, 1)) (hk : k < 133) (ht : zTy k = 24) (hin : vp_in i 8) (hj : 27 + 9 * i.toNatClampNeg = j) (K : zJG G y cc nL ret R Q X a b n l (.ref j :: st) M) : zJG G y cc nL ret R Q X a b pc l (.int i :: .ref k :: st) M := by
  subst hn
  subst hj
  intro la p e s m args below meth c D ad cy A hc H locs ls cells slots hP hS hl ha hb
  obtain ⟨hf, hx, hcb, hr, hml, hown, hts, hlk, het, hA, hi, hai, hK, hks⟩ := id hc
  exact va_aldq (f := fun i => some (ad (27 + 9 * i))) hx hcb hK hP k 4 (by rw [zWl_get hk, zE24 ht]) rfl hin hd (K la p e s m args below meth c D ad cy A hc H locs ls cells slots hP hS hl ha hb)
theorem zj_iastore {i : Int32} {x : Int32} {k : Nat} (hn : pc + 1 = n) (hd : decode cc pc = .ok (.iastore, 1)) (hk : k < 133) (ht : zTy k = 20) (hin : vp_in i (zLen k)) (K : zJG G y cc nL ret R Q X a b n l st (zU M.1 k i.toNatClampNeg x, M.2)) : zJG G y cc nL ret R Q X a b pc l (.int x :: .int i :: .ref k :: st) M := by
  subst hn
  intro la p e s m args below meth c D ad cy A hc H locs ls cells slots hP hS hl ha hb
  obtain ⟨hf, hx, hcb, hr, hml, hown, hts, hlk, het, hA, hi, hai, hK, hks⟩ := id hc
  have hset : (zWl ad cy M).set k (ad k, .inl (cy 0, zLen k, .inl (upd (M.1 k) i.toNatClampNeg x))) = zWl ad cy (zU M.1 k i.toNatClampNeg x, M.2) := by
    refine zWl_put ?_ (fun j h => zE_offI h)
    rw [zE20 ht]
    simp only [zU_at]
    rfl
  refine va_iast hx hcb hK hP (zWl_D hi hai) hS k 0 (by rw [zWl_get hk, zE20 ht]) rfl hin hd (fun H1 locs1 hP1 _ hS1 => ?_)
  rw [hset] at hP1
  exact K la p e s m args below meth c D ad cy A hc H1 locs1 ls cells slots hP1 hS1 hl ha hb
theorem zj_bastore {i : Int32} {x : Int32} {k : Nat} (hn : pc + 1 = n) (hd : decode cc pc = .ok (.bastore, 1)) (hk : k < 133) (ht : zTy k = 21) (hin : vp_in i (zLen k)) (K : zJG G y cc nL ret R Q X a b n l st (zU M.1 k i.toNatClampNeg (vp_nar .byte x), M.2)) : zJG G y cc nL ret R Q X a b pc l (.int x :: .int i :: .ref k :: st) M := by
  subst hn
  intro la p e s m args below meth c D ad cy A hc H locs ls cells slots hP hS hl ha hb
  obtain ⟨hf, hx, hcb, hr, hml, hown, hts, hlk, het, hA, hi, hai, hK, hks⟩ := id hc
  have hset : (zWl ad cy M).set k (ad k, .inl (cy 1, zLen k, .inl (upd (M.1 k) i.toNatClampNeg (vp_nar .byte x)))) = zWl ad cy (zU M.1 k i.toNatClampNeg (vp_nar .byte x), M.2) := by
    refine zWl_put ?_ (fun j h => zE_offI h)
    rw [zE21 ht]
    simp only [zU_at]
    rfl
  refine va_bast hx hcb hK hP (zWl_D hi hai) hS k 1 (by rw [zWl_get hk, zE21 ht]) rfl hin hd (fun H1 locs1 hP1 _ hS1 => ?_)
  rw [hset] at hP1
  exact K la p e s m args below meth c D ad cy A hc H1 locs1 ls cells slots hP1 hS1 hl ha hb
theorem zj_lastore {i : Int32} {x : Int64} {k : Nat} (hn : pc + 1 = n) (hd : decode cc pc = .ok (.lastore, 1)) (hk : k < 133) (ht : zTy k = 22) (hin : vp_in i (zLen k)) (K : zJG G y cc nL ret R Q X a b n l st (M.1, zU M.2.1 k i.toNatClampNeg x, M.2.2)) : zJG G y cc nL ret R Q X a b pc l (.long x :: .int i :: .ref k :: st) M := by
  subst hn
  intro la p e s m args below meth c D ad cy A hc H locs ls cells slots hP hS hl ha hb
  obtain ⟨hf, hx, hcb, hr, hml, hown, hts, hlk, het, hA, hi, hai, hK, hks⟩ := id hc
  have hset : (zWl ad cy M).set k (ad k, .inl (cy 2, zLen k, .inr (.inl (vp_updL (M.2.1 k) i.toNatClampNeg x)))) = zWl ad cy (M.1, zU M.2.1 k i.toNatClampNeg x, M.2.2) := by
    refine zWl_put ?_ (fun j h => zE_offL h)
    rw [zE22 ht]
    simp only [zU_at]
    rfl
  refine va_last hx hcb hK hP (zWl_D hi hai) hS k 2 (by rw [zWl_get hk, zE22 ht]) rfl hin hd (fun H1 locs1 hP1 _ hS1 => ?_)
  rw [hset] at hP1
  exact K la p e s m args below meth c D ad cy A hc H1 locs1 ls cells slots hP1 hS1 hl ha hb
theorem zj_dastore {i : Int32} {x : UInt64} {k : Nat} (hn : pc + 1 = n) (hd : decode cc pc = .ok (.dastore, 1)) (hk : k < 133) (ht : zTy k = 23) (hin : vp_in i (zLen k)) (K : zJG G y cc nL ret R Q X a b n l st (M.1, M.2.1, zU M.2.2.1 k i.toNatClampNeg x, M.2.2.2)) : zJG G y cc nL ret R Q X a b pc l (.double x :: .int i :: .ref k :: st) M := by
  subst hn
  intro la p e s m args below meth c D ad cy A hc H locs ls cells slots hP hS hl ha hb
  obtain ⟨hf, hx, hcb, hr, hml, hown, hts, hlk, het, hA, hi, hai, hK, hks⟩ := id hc
  have hset : (zWl ad cy M).set k (ad k, .inl (cy 3, zLen k, .inr (.inr (.inr (.inl (vf_upd (M.2.2.1 k) i.toNatClampNeg x)))))) = zWl ad cy (M.1, M.2.1, zU M.2.2.1 k i.toNatClampNeg x, M.2.2.2) := by
    refine zWl_put ?_ (fun j h => zE_offD h)
    rw [zE23 ht]
    simp only [zU_at]
    rfl
  refine va_dast hx hcb hK hP (zWl_D hi hai) hS k 3 (by rw [zWl_get hk, zE23 ht]) rfl hin hd (fun H1 locs1 hP1 _ hS1 => ?_)
  rw [hset] at hP1
  exact K la p e s m args below meth c D ad cy A hc H1 locs1 ls cells slots hP1 hS1 hl ha hb
theorem zj_arraylength {k : Nat} {v : Int32} (hn : pc + 1 = n) (hd : decode cc pc = .ok (.arraylength, 1)) (hk : k < 133) (ht : zTy k = 20 ∨ zTy k = 22 ∨ zTy k = 21 ∨ zTy k = 24) (hv : Int32.ofNat (if zTy k = 24 then 8 else zLen k) = v) (K : zJG G y cc nL ret R Q X a b n l (.int v :: st) M) : zJG G y cc nL ret R Q X a b pc l (.ref k :: st) M := by
  subst hn
  intro la p e s m args below meth c D ad cy A hc H locs ls cells slots hP hS hl ha hb
  obtain ⟨hf, hx, hcb, hr, hml, hown, hts, hlk, het, hA, hi, hai, hK, hks⟩ := id hc
  rcases ht with ht | ht | ht | ht
  · rw [if_neg (by omega)] at hv
    exact va_alen hx hcb hK hP k 0 (x := (zLen k, .inl (M.1 k))) (by rw [zWl_get hk, zE20 ht]) rfl hv hd (K la p e s m args below meth c D ad cy A hc H locs ls cells slots hP hS hl ha hb)
  · rw [if_neg (by omega)] at hv
    exact va_alen hx hcb hK hP k 2 (x := (zLen k, .inr (.inl (M.2.1 k)))) (by rw [zWl_get hk, zE22 ht]) rfl hv hd (K la p e s m args below meth c D ad cy A hc H locs ls cells slots hP hS hl ha hb)
  · rw [if_neg (by omega)] at hv
    exact va_alen hx hcb hK hP k 1 (x := (zLen k, .inl (M.1 k))) (by rw [zWl_get hk, zE21 ht]) rfl hv hd (K la p e s m args below meth c D ad cy A hc H locs ls cells slots hP hS hl ha hb)
  · rw [if_pos ht] at hv
    exact va_alen hx hcb hK hP k 4 (x := (8, .inr (.inr (.inr (.inr (fun i => some (ad (27 + 9 * i)))))))) (by rw [zWl_get hk, zE24 ht]) rfl hv hd (K la p e s m args below meth c D ad cy A hc H locs ls cells slots hP hS hl ha hb)
def zSum (st : List Value) : Nat := (st.map fun v => v.category).sum
theorem zSum_map {ad : Nat → Nat} {st : List Value} : ((st.map (zC ad)).map fun v => v.category).sum = zSum st := by
  unfold zSum
  rw [List.map_map]
  congr 2
  funext v
  exact zC_cat ad v
def zSx (own : String) (idx : Nat) (x : MethodName) (code : ByteArray) (nl : Nat) (ret : Option FieldType) : Prop := Cond.methodLink own idx x ∈ zTB ∧ Cond.static x ∈ zTB ∧ Cond.initialized x.cls ∈ zTB ∧ Cond.code x code nl ret ∈ zTB
theorem zj_imax {idx : Nat} {x z : Int32} (hn : pc + 3 = n) (hd : decode cc pc = .ok (.invokestatic idx, 3)) (S : zSx y.cls idx Lib.Math.max.name Lib.Math.max.code 2 (some .int)) (hR : 1 ≤ R.frames ∧ 21 ≤ R.locals) (hst : zSum st ≤ 8) (k : zJG G y cc nL ret R Q X a b n l (.int (if x < z then z else x) :: st) M) : zJG G y cc nL ret R Q X a b pc l (.int z :: .int x :: st) M := by
  subst hn
  intro la p e s m args below meth c D ad cy A hc H locs ls cells slots hP hS hl ha hb
  obtain ⟨hf, hx, hcb, hr, hml, hown, hts, hlk, het, hA, hi, hai, hK, hks⟩ := id hc
  refine va_mmax hx hcb (hml.trans hl.1.symm) hown (hts _ S.1) (hts _ S.2.1) (hts _ S.2.2.1) (hts _ S.2.2.2) hR.1 (by rw [zSum_map]; omega) (by omega) (by omega) hd ?_
  exact k la p e s m args below meth c D ad cy A hc H locs ls cells slots hP hS hl ha hb
theorem zj_imin {idx : Nat} {x z : Int32} (hn : pc + 3 = n) (hd : decode cc pc = .ok (.invokestatic idx, 3)) (S : zSx y.cls idx Lib.Math.min.name Lib.Math.min.code 2 (some .int)) (hR : 1 ≤ R.frames ∧ 21 ≤ R.locals) (hst : zSum st ≤ 8) (k : zJG G y cc nL ret R Q X a b n l (.int (if z < x then z else x) :: st) M) : zJG G y cc nL ret R Q X a b pc l (.int z :: .int x :: st) M := by
  subst hn
  intro la p e s m args below meth c D ad cy A hc H locs ls cells slots hP hS hl ha hb
  obtain ⟨hf, hx, hcb, hr, hml, hown, hts, hlk, het, hA, hi, hai, hK, hks⟩ := id hc
  refine va_mmin hx hcb (hml.trans hl.1.symm) hown (hts _ S.1) (hts _ S.2.1) (hts _ S.2.2.1) (hts _ S.2.2.2) hR.1 (by rw [zSum_map]; omega) (by omega) (by omega) hd ?_
  exact k la p e s m args below meth c D ad cy A hc H locs ls cells slots hP hS hl ha hb
theorem zj_lmin {idx : Nat} {x z : Int64} (hn : pc + 3 = n) (hd : decode cc pc = .ok (.invokestatic idx, 3)) (S : zSx y.cls idx Lib.MathLoose.min_long.x Lib.MathLoose.min_long.code 4 (some .long)) (hR : 1 ≤ R.frames ∧ 23 ≤ R.locals) (hst : zSum st ≤ 8) (k : zJG G y cc nL ret R Q X a b n l (.long (if z < x then z else x) :: st) M) : zJG G y cc nL ret R Q X a b pc l (.long z :: .long x :: st) M := by
  subst hn
  intro la p e s m args below meth c D ad cy A hc H locs ls cells slots hP hS hl ha hb
  obtain ⟨hf, hx, hcb, hr, hml, hown, hts, hlk, het, hA, hi, hai, hK, hks⟩ := id hc
  refine va_mmin_long hx hcb (hml.trans hl.1.symm) hown (hts _ S.1) (hts _ S.2.1) (hts _ S.2.2.1) (hts _ S.2.2.2) hR.1 (by rw [zSum_map]; omega) (by omega) (by omega) hd ?_
  exact k la p e s m args below meth c D ad cy A hc H locs ls cells slots hP hS hl ha hb
/-- a row of ints copied into a row of ints -/
theorem zj_copy {idx : Nat} {sp dp c9 : Int32} {k0 k1 : Nat} (hn : pc + 3 = n) (hd : decode cc pc = .ok (.invokestatic idx, 3)) (S : Cond.methodLink y.cls idx arraycopyName ∈ zTB ∧ Cond.native arraycopyName ∈ zTB ∧ Cond.static arraycopyName ∈ zTB ∧ Cond.initialized "java/lang/System" ∈ zTB) (hR : 1 ≤ R.frames ∧ 26 ≤ R.locals) (hst : zSum st ≤ 8)
    (h0 : k0 < 133) (ht0 : zTy k0 = 20) (h1 : k1 < 133) (ht1 : zTy k1 = 20) (g1 : ¬ sp < 0) (g2 : ¬ dp < 0) (g3 : ¬ c9 < 0) (g4 : sp.toNatClampNeg + c9.toNatClampNeg ≤ zLen k0) (g5 : dp.toNatClampNeg + c9.toNatClampNeg ≤ zLen k1)
    (k : zJG G y cc nL ret R Q X a b n l st (fun j => if j = k1 then va_cpy (M.1 k0) (M.1 k1) sp.toNatClampNeg dp.toNatClampNeg c9.toNatClampNeg else M.1 j, M.2)) : zJG G y cc nL ret R Q X a b pc l (.int c9 :: .int dp :: .ref k1 :: .int sp :: .ref k0 :: st) M := by
  subst hn
  intro la p e s m args below meth c D ad cy A hc H locs ls cells slots hP hS hl ha hb
  obtain ⟨hf, hx, hcb, hr, hml, hown, hts, hlk, het, hA, hi, hai, hK, hks⟩ := id hc
  have hset : (zWl ad cy M).set k1 (ad k1, .inl (cy 0, zLen k1, .inl (va_cpy (M.1 k0) (M.1 k1) sp.toNatClampNeg dp.toNatClampNeg c9.toNatClampNeg))) = zWl ad cy (fun j => if j = k1 then va_cpy (M.1 k0) (M.1 k1) sp.toNatClampNeg dp.toNatClampNeg c9.toNatClampNeg else M.1 j, M.2) := by
    refine zWl_put ?_ (fun j h => ?_)
    · rw [zE20 ht1]
      simp
    · unfold zE zFld
      simp only [if_neg h]
  refine va_copyi hx hcb (hml.trans hl.1.symm) hown (hts _ S.1) (hts _ S.2.1) (hts _ S.2.2.1) (hts _ S.2.2.2) hK hP (zWl_D hi hai) hS k0 k1 0 0 (by rw [zWl_get h0, zE20 ht0]) (by rw [zWl_get h1, zE20 ht1]) rfl rfl rfl g1 g2 g3 g4 g5 (fun i h => rfl) hR.1 (by rw [zSum_map]; show _ + (7 + 11) ≤ _; omega) hd (fun H1 locs1 hP1 _ hS1 => ?_)
  rw [hset] at hP1
  exact k la p e s m args below meth c D ad cy A hc H1 locs1 ls cells slots hP1 hS1 hl ha hb
theorem zj_ireturn {x : Int32} {ty : FieldType} (hd : decode cc pc = .ok (.ireturn, 1)) (hret : ret = some ty) (hnr : narrow ty (.int x) = .int x) (hQ : Q (some (.int x)) M) : zJG G y cc nL ret R Q X a b pc l [.int x] M := by
  intro la p e s m args below meth c D ad cy A hc H locs ls cells slots hP hS hl ha hb
  obtain ⟨hf, hx, hcb, hr, hml, hown, hts, hlk, het, hA, hi, hai, hK, hks⟩ := id hc
  refine vx_ret (W.widen (k := R.cells) (n := R.slots) (by omega) (by omega) ?_)
  exact W.zret hx hcb (hr.trans hret) hnr (fun t ht hW => ⟨⟨some (.int x), M, rfl, hQ, by rw [ht]; exact hP⟩, hS.F ht⟩) hS.2.2 hd hlk
theorem zj_lreturn {x : Int64} (hd : decode cc pc = .ok (.lreturn, 1)) (hret : ret = some .long) (hQ : Q (some (.long x)) M) : zJG G y cc nL ret R Q X a b pc l [.long x] M := by
  intro la p e s m args below meth c D ad cy A hc H locs ls cells slots hP hS hl ha hb
  obtain ⟨hf, hx, hcb, hr, hml, hown, hts, hlk, het, hA, hi, hai, hK, hks⟩ := id hc
  refine vx_ret (W.widen (k := R.cells) (n := R.slots) (by omega) (by omega) ?_)
  exact W.lret hx hcb (hr.trans hret) (fun t ht hW => ⟨⟨some (.long x), M, rfl, hQ, by rw [ht]; exact hP⟩, hS.F ht⟩) hS.2.2 hd hlk
theorem zj_dreturn {x : UInt64} (hd : decode cc pc = .ok (.dreturn, 1)) (hret : ret = some .double) (hQ : Q (some (.double x)) M) : zJG G y cc nL ret R Q X a b pc l [.double x] M := by
  intro la p e s m args below meth c D ad cy A hc H locs ls cells slots hP hS hl ha hb
  obtain ⟨hf, hx, hcb, hr, hml, hown, hts, hlk, het, hA, hi, hai, hK, hks⟩ := id hc
  refine vx_ret (W.widen (k := R.cells) (n := R.slots) (by omega) (by omega) ?_)
  exact W.dret hx hcb (hr.trans hret) (fun t ht hW => ⟨⟨some (.double x), M, rfl, hQ, by rw [ht]; exact hP⟩, hS.F ht⟩) hS.2.2 hd hlk
theorem zj_areturn {x : Nat} {nm : String} (hd : decode cc pc = .ok (.areturn, 1)) (hret : ret = some (.object nm)) (hQ : Q (some (.ref x)) M) : zJG G y cc nL ret R Q X a b pc l [.ref x] M := by
  intro la p e s m args below meth c D ad cy A hc H locs ls cells slots hP hS hl ha hb
  obtain ⟨hf, hx, hcb, hr, hml, hown, hts, hlk, het, hA, hi, hai, hK, hks⟩ := id hc
  refine vx_ret (W.widen (k := R.cells) (n := R.slots) (by omega) (by omega) ?_)
  exact W.aret hx hcb (hr.trans hret) (Or.inl ⟨nm, rfl⟩) (Or.inr ⟨_, rfl⟩) (fun t ht hW => ⟨⟨some (.ref x), M, rfl, hQ, by rw [ht]; exact hP⟩, hS.F ht⟩) hS.2.2 hd hlk
theorem zj_areturnN {nm : String} (hd : decode cc pc = .ok (.areturn, 1)) (hret : ret = some (.object nm)) (hQ : Q (some .null) M) : zJG G y cc nL ret R Q X a b pc l [.null] M := by
  intro la p e s m args below meth c D ad cy A hc H locs ls cells slots hP hS hl ha hb
  obtain ⟨hf, hx, hcb, hr, hml, hown, hts, hlk, het, hA, hi, hai, hK, hks⟩ := id hc
  refine vx_ret (W.widen (k := R.cells) (n := R.slots) (by omega) (by omega) ?_)
  exact W.aret hx hcb (hr.trans hret) (Or.inl ⟨nm, rfl⟩) (Or.inl rfl) (fun t ht hW => ⟨⟨some .null, M, rfl, hQ, by rw [ht]; exact hP⟩, hS.F ht⟩) hS.2.2 hd hlk
theorem zj_return (hd : decode cc pc = .ok (.return_, 1)) (hret : ret = none) (hQ : Q none M) : zJG G y cc nL ret R Q X a b pc l [] M := by
  intro la p e s m args below meth c D ad cy A hc H locs ls cells slots hP hS hl ha hb
  obtain ⟨hf, hx, hcb, hr, hml, hown, hts, hlk, het, hA, hi, hai, hK, hks⟩ := id hc
  refine vx_ret (W.widen (k := R.cells) (n := R.slots) (by omega) (by omega) ?_)
  exact W.vret hx hcb (hr.trans hret) (fun t ht hW => ⟨⟨none, M, rfl, hQ, by rw [ht]; exact hP⟩, hS.F ht⟩) hS.2.2 hd hlk
/-- how many places the locals of a method take -/
theorem zEnt_in {ad : Nat → Nat} : ∀ (vs : List Value) (n b : Nat) (i : Nat) (v : Value), (zEnt n vs)[i]? = some (some v) → (b + i, zC ad v) ∈ lv_args b (vs.map (zC ad))
  | [], n, b, i, v, h => by
    simp only [zEnt] at h
    rw [List.getElem?_replicate] at h
    split at h <;> simp at h
  | .long x :: r, n, b, i, v, h => by
    simp only [zEnt] at h
    match i, h with
    | 0, h => simp at h; subst h; exact List.mem_cons_self
    | 1, h => simp at h
    | i + 2, h =>
      have := zEnt_in (ad := ad) r (n - 2) (b + 2) i v (by simpa using h)
      refine List.mem_cons_of_mem _ ?_
      rw [show b + (i + 2) = b + 2 + i by omega]
      exact this
  | .double x :: r, n, b, i, v, h => by
    simp only [zEnt] at h
    match i, h with
    | 0, h => simp at h; subst h; exact List.mem_cons_self
    | 1, h => simp at h
    | i + 2, h =>
      have := zEnt_in (ad := ad) r (n - 2) (b + 2) i v (by simpa using h)
      refine List.mem_cons_of_mem _ ?_
      rw [show b + (i + 2) = b + 2 + i by omega]
      exact this
  | .int x :: r, n, b, i, v, h => by
    simp only [zEnt] at h
    match i, h with
    | 0, h => simp at h; subst h; exact List.mem_cons_self
    | i + 1, h =>
      have := zEnt_in (ad := ad) r (n - 1) (b + 1) i v (by simpa using h)
      refine List.mem_cons_of_mem _ ?_
      rw [show b + (i + 1) = b + 1 + i by omega]
      exact this
  | .float x :: r, n, b, i, v, h => by
    simp only [zEnt] at h
    match i, h with
    | 0, h => simp at h; subst h; exact List.mem_cons_self
    | i + 1, h =>
      have := zEnt_in (ad := ad) r (n - 1) (b + 1) i v (by simpa using h)
      refine List.mem_cons_of_mem _ ?_
      rw [show b + (i + 1) = b + 1 + i by omega]
      exact this
  | .null :: r, n, b, i, v, h => by
    simp only [zEnt] at h
    match i, h with
    | 0, h => simp at h; subst h; exact List.mem_cons_self
    | i + 1, h =>
      have := zEnt_in (ad := ad) r (n - 1) (b + 1) i v (by simpa using h)
      refine List.mem_cons_of_mem _ ?_
      rw [show b + (i + 1) = b + 1 + i by omega]
      exact this
  | .ref x :: r, n, b, i, v, h => by
    simp only [zEnt] at h
    match i, h with
    | 0, h => simp at h; subst h; exact List.mem_cons_self
    | i + 1, h =>
      have := zEnt_in (ad := ad) r (n - 1) (b + 1) i v (by simpa using h)
      refine List.mem_cons_of_mem _ ?_
      rw [show b + (i + 1) = b + 1 + i by omega]
      exact this
  | .retAddr x :: r, n, b, i, v, h => by
    simp only [zEnt] at h
    match i, h with
    | 0, h => simp at h; subst h; exact List.mem_cons_self
    | i + 1, h =>
      have := zEnt_in (ad := ad) r (n - 1) (b + 1) i v (by simpa using h)
      refine List.mem_cons_of_mem _ ?_
      rw [show b + (i + 1) = b + 1 + i by omega]
      exact this
theorem zSl_len {ad : Nat → Nat} : ∀ vs : List Value, (lg_sl (vs.map (zC ad))).length = zSum vs
  | [] => rfl
  | v :: r => by
    have h := zSl_len (ad := ad) r
    unfold lg_sl zSum at h ⊢
    rw [List.map_cons, List.flatMap_cons, List.length_append, h, List.map_cons, List.sum_cons, zC_cat]
    congr 1
    rcases lv_cat v with q | q <;> simp [q]
def zPc (vs : List Value) (M : zM) (D : va_G) (ad : Nat → Nat) (cy : Nat → ClassId) (A : Nat → Prop) : Array Value → State → Prop :=
  va_Pc (vs.map (zC ad)) (fun U => va_P D vwCl (zWl ad cy M) U.heap ∧ va_K D vwCl (zTys cy) U ∧ zKs ad A U U.heap ∧ (∀ q, U.heap.size ≤ q → A q))
def zWs (y : MethodName) (cc : ByteArray) (nL : Nat) (ret : Option FieldType) : List Cond := Cond.code y cc nL ret :: zTB
theorem zWs_good {y : MethodName} {cc : ByteArray} {nL : Nat} {ret : Option FieldType} (h : Cond.code y cc nL ret ∈ zTB) : GoodIn zTB (zWs y cc nL ret) := by
  intro w hw
  have hm : w ∈ zTB := by
    rcases List.mem_cons.mp hw with rfl | q
    · exact h
    · exact q
  exact ⟨hm, good_of_word (List.mem_filter.mp hm).2⟩
/-- a walk from the entry gives the contract -/
theorem z_ofW {la : Launch} {ws ws' : List Cond} {rm : Room} {Pc : Array Value → State → Prop} {Qc : Array Value → State → Outcome → State → Prop} {XC : String → State → State → Prop} {mc ms : Nat} {free : Addr → Prop}
    (hy : plainFor y = true) (hw : ws = Cond.code y cc nL ret :: ws')
    (body : ∀ p e s m args below meth c s₁, BodyLoose p la y (headSpec ws rm) cc nL ret e s m args below meth c s₁ → c.maxLocals = nL → (∀ x ∈ c.exceptionTable.toList, False) → Pc args s →
      W p la e (headSpec ws rm).room s m args below meth c s.heap [] 0 0 (vx_MQ below Qc XC args s mc ms free) (entryFrame m args nL)) : vx_Met la y ws rm Pc Qc XC mc ms free := by
  refine MetFree.of_bodySF (code := cc) (maxLocals := nL) (ret := ret) hy ?_ ?_
  · intro args s m h hn
    obtain ⟨meth, c, h1, h2, h3, h4, h5, h6, -, -⟩ := Cond.code_spec hn (atoms_spec (ws := ws) h _ (by rw [hw]; exact List.mem_cons_self))
    exact ⟨meth, c, h1, h2, h3, h4, h5, h6⟩
  · intro p e s m args below meth c s₁ B hml hP _
    have hh0 : s₁.heap = s.heap := by rw [B.state]; rfl
    have ht : ∀ x ∈ c.exceptionTable.toList, False := by
      obtain ⟨meth9, c9, h1, h2, -, -, -, -, h7, -⟩ := Cond.code_spec B.named (atoms_spec (ws := ws) B.pre _ (by rw [hw]; exact List.mem_cons_self))
      cases Option.some.inj (h1.symm.trans B.method)
      cases Option.some.inj (h2.symm.trans (Stand.of_body B).code)
      intro x hx
      rw [Array.isEmpty_iff.mp h7] at hx
      cases hx
    obtain ⟨t, a1, o, b1, b2, b3⟩ := body p e s m args below meth c s₁ B hml ht hP s₁ hh0 (Stand.of_body B)
    exact ⟨t, o, a1, b1, b2, b3⟩
theorem zT_met {vs : List Value} (hy : plainFor y = true) (hw : zSum vs ≤ nL) (hJ : zJ y cc nL ret R Q X R.cells R.slots 0 (zEnt nL vs) [] M) (la : Launch) (hf : la.flags = flags0) (D : va_G) (ad : Nat → Nat) (cy : Nat → ClassId) (A : Nat → Prop) (hi : ∀ i j, i < 133 → j < 133 → ad i = ad j → i = j) (hai : ∀ i, i < 133 → A (ad i)) :
    vx_Met la y (zWs y cc nL ret) R (zPc vs M D ad cy A) (zQc D ad cy A Q) (zXc D ad cy A X) R.cells R.slots A := by
  refine z_ofW hy rfl ?_
  intro p e s m args below meth c s₁ B hml het hv
  obtain ⟨rfl, hP, hK, hks, hA⟩ := hv
  have hts := atoms_spec (ws := zWs y cc nL ret) B.pre
  have hl := lv_entry (vs.map (zC ad)) (n := nL) (by rw [zSl_len]; exact hw)
  rw [lg_entry_eq]
  generalize (lg_sl (vs.map (zC ad)) ++ List.replicate (nL - (lg_sl (vs.map (zC ad))).length) Slot.unset).toArray = ls at hl ⊢
  refine hJ la p e s m _ below meth c D ad cy A ⟨hf, B.exec, B.bytes, B.returns, hml, findClass_of_methodNamed B.named, fun w h => hts w (List.mem_cons_of_mem _ h), B.notSynchronized, het, hA, hi, hai, hK, hks⟩ s.heap [] ls 0 0 hP va_S.rf ⟨hl.1, hl.2.1, fun i v h => ?_⟩ (by omega) (by omega)
  have := hl.2.2 _ (zEnt_in (ad := ad) vs nL 0 i v h)
  simpa using this
theorem zPc_blind {vs : List Value} {D : va_G} {ad : Nat → Nat} {cy : Nat → ClassId} {A : Nat → Prop} : FrameBlind (zPc vs M D ad cy A) := by
  intro a U g mk h
  obtain ⟨h1, h2, h3, h4, h5⟩ := h
  exact ⟨h1, h2, va_K.moved (u := U) (U := U.calling g mk a) (Vm.Alike.refl U.vm) h3, h4.blind, h5⟩
def zPush : Option Value → List Value → List Value
  | some v, st => v :: st
  | none, st => st
theorem zPc_at {vs : List Value} {s U : State} {D : va_G} {ad : Nat → Nat} {cy : Nat → ClassId} {A : Nat → Prop} {H : Heap} {locs : List Loc} (hP : va_P D vwCl (zWl ad cy M) H) (hS : va_S A s.heap H locs) (hA : ∀ q, s.heap.size ≤ q → A q) (hK : va_K D vwCl (zTys cy) s) (hks : zKs ad A s s.heap) (hU : U.heap = H) (hW : s.WarmedH U.vm) : zPc vs M D ad cy A (vs.map (zC ad)).toArray U :=
  ⟨rfl, by rw [hU]; exact hP, va_K.moved hW.alike hK, by rw [hU]; exact (hks.kept hS.2.1).warm hW, by rw [hU]; exact fun q h => hA q (Nat.le_trans hS.1 h)⟩
/-- behind a call that returns or throws -/
theorem zvx {la : Launch} {p : Program} {e : Env} {s : State} {m : MethodId} {args a9 : Array Value} {below : List Frame} {meth : Method} {c : Code} {D : va_G} {ad : Nat → Nat} {cy : Nat → ClassId} {A : Nat → Prop} {H : Heap} {locs : List Loc} {ls : Array Slot} {cells slots mc ms a' b' : Nat} {st0 : List Value}
    (hG : zGe G) (hr : vx_Run p la e R s m args below meth c H locs cells slots mc ms (F0 m pc ls st0) (st.map (zC ad)) (zQc D ad cy A (fun r M' => zJG G y cc nL ret R Q X a' b' (pc + 3) l (zPush r st) M') a9) (zXc D ad cy A X) A) (hc : zCx G la y cc nL ret p s m args meth c D ad cy A) (hS : va_S A s.heap H locs) (hl : zLR ad ls nL l) (ha : cells + mc + a' ≤ R.cells) (hb : slots + ms + b' ≤ R.slots) :
    W p la e R s m args below meth c H locs cells slots (vx_MQ below (zQc D ad cy A Q) (zXc D ad cy A X) args s R.cells R.slots A) (F0 m pc ls st0) := by
  have hc' := hc
  obtain ⟨hf, hx, hcb, hr9, hml, hown, hts, hlk, het, hA, hi, hai, hK, hks⟩ := hc
  intro T hT Y
  rcases hr T hT Y with ⟨v, st₀, t, T', L, h0, Y', hL, e1, e2, ⟨⟨r, M', hv, hq, hP'⟩, hF⟩, hgo⟩ | ⟨q, st₀, t, T', L, E, ce, h0, Y', hL, e1, e2, ⟨⟨M', hq, hP'⟩, hF⟩, hce, hcv, hcl, hgo⟩
  · cases hv
    obtain ⟨k1, k2, k3⟩ := vx_keep h0 e1 hS (fun _ _ h => h) (fun _ h => h) hL hF
    obtain ⟨t2, a1, b1⟩ := hq la p e s m args below meth c D ad cy A hc' T'.heap (locs ++ L) ls (cells + mc) (slots + ms) (by rw [e1]; exact hP') k3 hl ha hb T' rfl Y'
    refine ⟨t2, hgo t2 ?_, b1⟩
    cases r <;> exact a1
  · obtain ⟨k1, k2, k3⟩ := vx_keep h0 e1 hS (fun _ _ h => h) (fun _ h => h) hL hF
    obtain ⟨t2, a1, b1⟩ := vx_out (p := p) (l := la) (e := e) (R := R) (s := s) (m := m) (args := args) (below := below) (meth := meth) (c := c) (H := T'.heap) (locs := locs ++ L) (cells := cells + mc) (slots := slots + ms) (Qc := zQc D ad cy A Q) (XC := zXc D ad cy A X) (free := A) (ls := ls) (rest := st.map (zC ad)) (pc := pc) (E := E) (ce := ce) (q := q) (mc := R.cells) (ms := R.slots)
      (fun x hx9 => (hG _ _ _ _ het x hx9).elim) hlk (by rw [e1]; exact hce) hcv hcl (fun t9 ht9 hv9 => ⟨⟨M', hq, by rw [ht9, e1]; exact hP'⟩, k3.F ht9⟩) k3.2.2 (by omega) (by omega) T' rfl Y'
    exact ⟨t2, hgo.trans a1, b1⟩
/-- a call's words: by the method's own link, or a nest mate's -/
def zSv (own : String) (idx : Nat) (x : MethodName) (code : ByteArray) (nl : Nat) (ret : Option FieldType) (n : Nat) : Prop := Cond.methodLink own idx x ∈ zTB ∧ Cond.instanceMethod x ∈ zTB ∧ Cond.selects x.cls x x ∈ zTB ∧ Cond.initialized x.cls ∈ zTB ∧ Cond.code x code nl ret ∈ zTB ∧ (x.cls ≠ "java/lang/invoke/MethodHandle" ∧ x.cls ≠ "java/lang/invoke/VarHandle" ∧ (parseMethodDescriptor x.desc).map (fun d => d.parameters.length) = some n) ∧ plainFor x = true
def zSs (own : String) (idx : Nat) (x : MethodName) (code : ByteArray) (nl : Nat) (ret : Option FieldType) (n : Nat) : Prop := Cond.methodLink own idx x ∈ zTB ∧ Cond.static x ∈ zTB ∧ Cond.initialized x.cls ∈ zTB ∧ Cond.code x code nl ret ∈ zTB ∧ (x.cls ≠ "java/lang/invoke/MethodHandle" ∧ x.cls ≠ "java/lang/invoke/VarHandle" ∧ (parseMethodDescriptor x.desc).map (fun d => d.parameters.length) = some n) ∧ plainFor x = true
theorem zj_callV {y' : MethodName} {cc' : ByteArray} {nL' idx k a' b' : Nat} {ret' : Option FieldType} {R' : Room} {vs : List Value} (hn : pc + 3 = n) (hd : decode cc pc = .ok (.invokevirtual idx, 3)) (S : zSv y.cls idx y' cc' nL' ret' vs.length) (hR : R'.frames + 1 ≤ R.frames ∧ 8 + (nL' + 11) + R'.locals ≤ R.locals) (hk : k < 133) (hcl : (vwCl[zTy k]?).map (fun q => q.1) = some y'.cls) (hst : zSum st ≤ 8) (ha9 : R'.cells + a' ≤ a) (hb9 : R'.slots + b' ≤ b) (hw : zSum vs + 1 ≤ nL')
    (hJ : zJ y' cc' nL' ret' R' (fun r M' => zJG G y cc nL ret R Q X a' b' n l (zPush r st) M') X R'.cells R'.slots 0 (zEnt nL' (.ref k :: vs)) [] M) (hG : zGe G := by exact zG0_e) : zJG G y cc nL ret R Q X a b pc l (vs.reverse ++ .ref k :: st) M := by
  subst hn
  intro la p e s m args below meth c D ad cy A hc H locs ls cells slots hP hS hl ha hb
  obtain ⟨hf, hx, hcb, hr, hml, hown, hts, hlk, het, hA, hi, hai, hK, hks⟩ := id hc
  obtain ⟨S1, S2, S3, S4, S5, S6, S7⟩ := S
  have hM := zT_met S7 (by show (1 + zSum vs) ≤ nL'; omega) hJ la hf D ad cy A hi hai
  obtain ⟨q, hq, hqc⟩ : ∃ q, vwCl[zTy k]? = some q ∧ q.1 = y'.cls := by
    cases h9 : vwCl[zTy k]? with
    | none => rw [h9] at hcl; cases hcl
    | some q => rw [h9] at hcl; exact ⟨q, rfl, Option.some.inj hcl⟩
  have hci : zTy k < 20 := by
    have := (List.getElem?_eq_some_iff.mp hq).1
    have h10 : vwCl.length = 10 := rfl
    omega
  obtain ⟨cell, g1, g2, g3⟩ := va_recv hK hP hq (q0 := k) (by rw [zWl_get hk, zE_obj rfl hci])
  rw [hqc] at g3
  have ok : ∀ w ∈ zTB, w.before args s = true := hts
  have cw : CallW R s args y.cls y'.cls idx y' cc' nL' ret' (zWs y' cc' nL' ret') R' R'.cells R'.slots vs.length :=
    ⟨callB_of vs.length ok (zWs_good S5) rfl rfl rfl (ok _ S4) (ok _ S1) S6 hR, ok _ S2, ok _ S3⟩
  refine zvx hG (a' := a') (b' := b') (a9 := (Value.ref (ad k) :: vs.map (zC ad)).toArray) (vx_runV ⟨hx, hcb, hml, hown, ok⟩ hM cw ⟨zPc_blind, ⟨cell, g1, g2, g3⟩, fun U hU hW => zPc_at (vs := .ref k :: vs) hP hS hA hK hks hU hW⟩ rfl (by simp) hl.1 ?_ (lv_room (by rw [zSum_map]; exact hst)) hd ⟨by omega, by omega⟩) hc hS hl (by omega) (by omega)
  show List.map (zC ad) (vs.reverse ++ .ref k :: st) = (vs.map (zC ad)).reverse ++ .ref (ad k) :: st.map (zC ad)
  rw [List.map_append, List.map_reverse]
  rfl
theorem zj_callS {y' : MethodName} {cc' : ByteArray} {nL' idx a' b' : Nat} {ret' : Option FieldType} {R' : Room} {vs : List Value} (hn : pc + 3 = n) (hd : decode cc pc = .ok (.invokestatic idx, 3)) (S : zSs y.cls idx y' cc' nL' ret' vs.length) (hR : R'.frames + 1 ≤ R.frames ∧ 8 + (nL' + 11) + R'.locals ≤ R.locals) (hst : zSum st ≤ 8) (ha9 : R'.cells + a' ≤ a) (hb9 : R'.slots + b' ≤ b) (hw : zSum vs ≤ nL')
    (hJ : zJ y' cc' nL' ret' R' (fun r M' => zJG G y cc nL ret R Q X a' b' n l (zPush r st) M') X R'.cells R'.slots 0 (zEnt nL' vs) [] M) (hG : zGe G := by exact zG0_e) : zJG G y cc nL ret R Q X a b pc l (vs.reverse ++ st) M := by
  subst hn
  intro la p e s m args below meth c D ad cy A hc H locs ls cells slots hP hS hl ha hb
  obtain ⟨hf, hx, hcb, hr, hml, hown, hts, hlk, het, hA, hi, hai, hK, hks⟩ := id hc
  obtain ⟨S1, S2, S4, S5, S6, S7⟩ := S
  have hM := zT_met S7 hw hJ la hf D ad cy A hi hai
  have ok : ∀ w ∈ zTB, w.before args s = true := hts
  have cw : CallB R s args y.cls idx y' cc' nL' ret' (zWs y' cc' nL' ret') R' R'.cells R'.slots vs.length ∧ (Cond.static y').before args s = true :=
    ⟨callB_of vs.length ok (zWs_good S5) rfl rfl rfl (ok _ S4) (ok _ S1) S6 hR, ok _ S2⟩
  refine zvx hG (a' := a') (b' := b') (a9 := (vs.map (zC ad)).toArray) (vx_runS ⟨hx, hcb, hml, hown, ok⟩ hM cw ⟨zPc_blind, fun U hU hW => zPc_at (vs := vs) hP hS hA hK hks hU hW⟩ rfl (by simp) hl.1 ?_ (lv_room (by rw [zSum_map]; exact hst)) hd ⟨by omega, by omega⟩) hc hS hl (by omega) (by omega)
  show List.map (zC ad) (vs.reverse ++ st) = (vs.map (zC ad)).reverse ++ st.map (zC ad)
  rw [List.map_append, List.map_reverse]
theorem zMet_of {la : Launch} {ws : List Cond} {rm : Room} {Pc : Array Value → State → Prop} {Qc : Array Value → State → Outcome → State → Prop} {XC : String → State → State → Prop} {mc ms : Nat} {free : Addr → Prop} (h : vx_Met la y ws rm Pc Qc XC mc ms free) (hX : ∀ E st t, ¬ XC E st t) : Met la y ws rm Pc Qc mc ms free := by
  intro p e ha hc hk s m args below hf happ hP hK
  obtain ⟨k, o, h1, h2, h3, h4⟩ := h p e ha hc hk s m args below hf happ hP hK
  refine ⟨k, o, h1, h2, h3, ?_⟩
  rcases h4 with h | ⟨q, ho, E, ce, L, hx, -⟩
  · exact h
  · exact absurd hx (hX E _ _)
/-- behind a call that returns -/
theorem zva {la : Launch} {p : Program} {e : Env} {s : State} {m : MethodId} {args a9 : Array Value} {below : List Frame} {meth : Method} {c : Code} {D : va_G} {ad : Nat → Nat} {cy : Nat → ClassId} {A : Nat → Prop} {H : Heap} {locs : List Loc} {ls : Array Slot} {cells slots mc ms a' b' : Nat} {st0 : List Value}
    (hr : va_Run p la e R s m args below meth c H locs cells slots mc ms (F0 m pc ls st0) (st.map (zC ad)) (zQc D ad cy A (fun r M' => zJG G y cc nL ret R Q X a' b' (pc + 3) l (zPush r st) M') a9) A) (hc : zCx G la y cc nL ret p s m args meth c D ad cy A) (hS : va_S A s.heap H locs) (hl : zLR ad ls nL l) (ha : cells + mc + a' ≤ R.cells) (hb : slots + ms + b' ≤ R.slots) :
    W p la e R s m args below meth c H locs cells slots (vx_MQ below (zQc D ad cy A Q) (zXc D ad cy A X) args s R.cells R.slots A) (F0 m pc ls st0) := by
  intro T hT Y
  obtain ⟨v, st₀, t, T', L, h0, Y', hL, e1, e2, ⟨⟨r, M', hv, hq, hP'⟩, hF⟩, hgo⟩ := hr T hT Y
  cases hv
  obtain ⟨k1, k2, k3⟩ := vx_keep h0 e1 hS (fun _ _ h => h) (fun _ h => h) hL hF
  obtain ⟨t2, a1, b1⟩ := hq la p e s m args below meth c D ad cy A hc T'.heap (locs ++ L) ls (cells + mc) (slots + ms) (by rw [e1]; exact hP') k3 hl ha hb T' rfl Y'
  refine ⟨t2, hgo t2 ?_, b1⟩
  cases r <;> exact a1
def zSn (own : String) (idx : Nat) (x : MethodName) (code : ByteArray) (nl : Nat) (ret : Option FieldType) (n : Nat) : Prop := (∃ host, Cond.methodLinkNest own idx x host ∈ zNl) ∧ Cond.static x ∈ zTB ∧ Cond.initialized x.cls ∈ zTB ∧ Cond.code x code nl ret ∈ zTB ∧ (x.cls ≠ "java/lang/invoke/MethodHandle" ∧ x.cls ≠ "java/lang/invoke/VarHandle" ∧ (parseMethodDescriptor x.desc).map (fun d => d.parameters.length) = some n) ∧ plainFor x = true
theorem zj_callSN {y' : MethodName} {cc' : ByteArray} {nL' idx a' b' : Nat} {ret' : Option FieldType} {R' : Room} {vs : List Value} (hn : pc + 3 = n) (hd : decode cc pc = .ok (.invokestatic idx, 3)) (S : zSn y.cls idx y' cc' nL' ret' vs.length) (hR : R'.frames + 1 ≤ R.frames ∧ 8 + (nL' + 11) + R'.locals ≤ R.locals) (hst : zSum st ≤ 8) (ha9 : R'.cells + a' ≤ a) (hb9 : R'.slots + b' ≤ b) (hw : zSum vs ≤ nL')
    (hJ : zJ y' cc' nL' ret' R' (fun r M' => zJG G y cc nL ret R Q X a' b' n l (zPush r st) M') (fun _ _ => False) R'.cells R'.slots 0 (zEnt nL' vs) [] M) : zJG G y cc nL ret R Q X a b pc l (vs.reverse ++ st) M := by
  subst hn
  intro la p e s m args below meth c D ad cy A hc H locs ls cells slots hP hS hl ha hb
  obtain ⟨hf, hx, hcb, hr, hml, hown, hts, hlk, het, hA, hi, hai, hK, hks⟩ := id hc
  obtain ⟨⟨host, S1⟩, S2, S4, S5, S6, S7⟩ := S
  have hM := zMet_of (zT_met S7 hw hJ la hf D ad cy A hi hai) (fun E st9 t9 h9 => by obtain ⟨⟨_, h8, _⟩, _⟩ := h9; exact h8)
  have ok : ∀ w ∈ zTB, w.before args s = true := hts
  refine zva (a' := a') (b' := b') (a9 := (vs.map (zC ad)).toArray) (va_runSN ⟨hx, hcb, hml, hown, ok⟩ hM ⟨va_cnB vs.length ok (zWs_good S5) rfl rfl rfl (va_Nw.of (zNk_on (List.mem_filter.mp S1).2) (hks.nest (args := args) S1)) (ok _ S4) S6 hR, ok _ S2, trivial⟩ ⟨zPc_blind, fun U hU hW => zPc_at (vs := vs) hP hS hA hK hks hU hW⟩ rfl (by simp) hl.1 ?_ (lv_room (by rw [zSum_map]; exact hst)) hd ⟨by omega, by omega⟩) hc hS hl (by omega) (by omega)
  show List.map (zC ad) (vs.reverse ++ st) = (vs.map (zC ad)).reverse ++ st.map (zC ad)
  rw [List.map_append, List.map_reverse]
theorem zj_throwS {ik is ic i9 : Nat} {cls text : String} {names : List String} (hcls : Bundle.fit cls = true) (hnames : ∀ n ∈ names, Bundle.fit n = true) (hown9 : y.cls = "RepairAuction") (h1 : Cond.classLink y.cls ik cls ∈ zTB) (h2 : Cond.initialized cls ∈ zTB) (h3 : i9 < 5 ∧ zXt.getD i9 (0, "") = (is, text))
    (h4 : ∀ w ∈ vx_atS y.cls ic cls names, w ∈ zTB ∨ w ∈ zNl) (h5 : ∀ w ∈ Cond.classLink y.cls ik cls :: Cond.initialized cls :: vx_atS y.cls ic cls names, vx_ot w = true)
    (d0 : decode cc pc = .ok (.new ik, 3)) (d3 : decode cc (pc + 3) = .ok (.dup, 1)) (d4 : decode cc (pc + 4) = .ok (.ldc is, 2)) (d6 : decode cc (pc + 6) = .ok (.invokespecial ic, 3)) (d9 : decode cc (pc + 9) = .ok (.athrow, 1))
    (hR : names.length + 3 < R.frames ∧ 8 + (13 * (names.length + 1) + 43) ≤ R.locals) (hst : zSum st ≤ 8) (ha9 : 1 ≤ a) (hb9 : 6 ≤ b) (hX : X cls M) (hG : zGe G := by exact zG0_e) : zJG G y cc nL ret R Q X a b pc l st M := by
  intro la p e s m args below meth c D ad cy A hc H locs ls cells slots hP hS hl ha hb
  obtain ⟨hf, hx, hcb, hr, hml, hown, hts, hlk, het, hA, hi, hai, hK, hks⟩ := id hc
  have h7 := hks.2.2.2.2.2.2.1 i9 h3.1
  rw [h3.2] at h7
  refine vx_throwS hx hcb (by rw [Launch.stackTraces, hf]; rfl) hown hcls hnames (hts _ h1) (hts _ h2) (by rw [hown9]; exact h7) (fun w hw => (h4 w hw).elim (hts w) (fun h => hks.nest h)) h5 hks.2.2.2.2.2.2.2.1 hks.2.2.2.2.2.2.2.2.1 hS (hl.1.trans hml.symm) d0 d3 d4 d6 d9 (fun x h => (hG _ _ _ _ het x h).elim) hR.1 (by rw [zSum_map]; omega) (by omega) (by omega) hlk ?_ hS.2.2 (by omega) (by omega)
  intro t hv hz hq
  refine ⟨⟨M, hX, hP.kept (fun k q hk => ?_)⟩, Nat.le_trans hS.1 hz, fun q hq1 hq2 => ?_⟩
  · exact hq _ (vx_lt hP hk)
  · rw [hq q (Nat.lt_of_lt_of_le hq1 hS.1)]
    exact hS.2.1 q hq1 hq2
theorem zj_throwSW {ik is ic i9 : Nat} {cls text : String} {names : List String} (hcls : Bundle.fit cls = true) (hnames : ∀ n ∈ names, Bundle.fit n = true) (hown9 : y.cls = "RepairAuction") (h1 : Cond.classLink y.cls ik cls ∈ zTB) (h2 : Cond.initialized cls ∈ zTB) (h3 : i9 < 5 ∧ zXt.getD i9 (0, "") = (is, text))
    (h4 : ∀ w ∈ vx_atS y.cls ic cls names, w ∈ zTB ∨ w ∈ zNl) (h5 : ∀ w ∈ Cond.classLink y.cls ik cls :: Cond.initialized cls :: vx_atS y.cls ic cls names, vx_ot w = true)
    (d0 : decode cc pc = .ok (.new ik, 3)) (d3 : decode cc (pc + 3) = .ok (.dup, 1)) (d4 : decode cc (pc + 4) = .ok (.ldc_w is, 3)) (d6 : decode cc (pc + 7) = .ok (.invokespecial ic, 3)) (d9 : decode cc (pc + 10) = .ok (.athrow, 1))
    (hR : names.length + 3 < R.frames ∧ 8 + (13 * (names.length + 1) + 43) ≤ R.locals) (hst : zSum st ≤ 8) (ha9 : 1 ≤ a) (hb9 : 6 ≤ b) (hX : X cls M) (hG : zGe G := by exact zG0_e) : zJG G y cc nL ret R Q X a b pc l st M := by
  intro la p e s m args below meth c D ad cy A hc H locs ls cells slots hP hS hl ha hb
  obtain ⟨hf, hx, hcb, hr, hml, hown, hts, hlk, het, hA, hi, hai, hK, hks⟩ := id hc
  have h7 := hks.2.2.2.2.2.2.1 i9 h3.1
  rw [h3.2] at h7
  refine vx_throwSW hx hcb (by rw [Launch.stackTraces, hf]; rfl) hown hcls hnames (hts _ h1) (hts _ h2) (by rw [hown9]; exact h7) (fun w hw => (h4 w hw).elim (hts w) (fun h => hks.nest h)) h5 hks.2.2.2.2.2.2.2.1 hks.2.2.2.2.2.2.2.2.1 hS (hl.1.trans hml.symm) d0 d3 d4 d6 d9 (fun x h => (hG _ _ _ _ het x h).elim) hR.1 (by rw [zSum_map]; omega) (by omega) (by omega) hlk ?_ hS.2.2 (by omega) (by omega)
  intro t hv hz hq
  refine ⟨⟨M, hX, hP.kept (fun k q hk => ?_)⟩, Nat.le_trans hS.1 hz, fun q hq1 hq2 => ?_⟩
  · exact hq _ (vx_lt hP hk)
  · rw [hq q (Nat.lt_of_lt_of_le hq1 hS.1)]
    exact hS.2.1 q hq1 hq2
end ZJ
