abbrev PC : Type := (FieldType × vp_A) ⊕ (Nat × List Value)
abbrev PH : Type := List PC
/-- cell i of the pure heap lies at B + i -/
def pv (B : Nat) : Value → Value
  | .ref i => .ref (B + i)
  | v => v
def pA (B : Nat) : vp_A → vp_A
  | (n, .inr (.inr (.inr (.inr f)))) => (n, .inr (.inr (.inr (.inr (fun j => (f j).map (fun i => B + i))))))
  | a => a
def pE (B : Nat) (cA : ClassId) : PC → va_E
  | .inl (_, a) => .inl (cA, pA B a)
  | .inr (ci, fs) => .inr (ci, fs.map (pv B))
def pW (B : Nat) (ca : Nat → ClassId) (h : PH) : va_W := h.mapIdx (fun i c => (B + i, pE B (ca i) c))
def pArr (s : State) (ca : Nat → ClassId) (h : PH) : Prop := ∀ (i : Nat) (ty : FieldType) (a : vp_A), h[i]? = some (.inl (ty, a)) → ArrOfT s (ca i) ty ∧ va_RA s (ca i) ty
def Sim (D : va_G) (B : Nat) (h : PH) (s : State) (H : Heap) : Prop := H.size = B + h.length ∧ ∃ ca : Nat → ClassId, va_P D vwCl (pW B ca h) H ∧ pArr s ca h
def pG (D : va_G) (U : State) : Prop := va_K D vwCl [] U ∧ (∀ w ∈ pNs, va_Nw w U) ∧ va_AO RX5 U
def Cx (D : va_G) (Y : PMth) (p : Program) (s : State) (m : MethodId) (args : Array Value) (meth : Method) (c : Code) : Prop :=
  p.tables.exec = Jvm.exec ∧ c.code = Y.2.1 ∧ meth.sig.returnType = Y.2.2.2 ∧ c.maxLocals = Y.2.2.1 ∧ s.vm.findClass Y.1.cls = some m.cls ∧ (∀ w ∈ pTb, w.before args s = true) ∧ meth.locks = false ∧ meth.name = Y.1.name ∧ pG D s
def pL (B : Nat) : Nat → List (Option Value) → List (Nat × Value)
  | _, [] => []
  | i, some v :: L => (i, pv B v) :: pL B (i + 1) L
  | i, none :: L => pL B (i + 1) L
/-- the machine at pc, with locals L, stack st, heap h, n slots made, comes to the end E -/
def Wp (l : Launch) (D : va_G) (Y : PMth) (R : Room) (n0 : Nat) (X : State → Array Value → Nat → Prop) (E : List Frame → Array Value → State → Nat → State → Prop) (pc : Nat) (L : List (Option Value)) (st : List Value) (h : PH) (n : Nat) : Prop :=
  ∀ (p : Program) (e : Env) (s : State) (m : MethodId) (args : Array Value) (below : List Frame) (meth : Method) (c : Code) (B : Nat) (H : Heap) (locs : List Loc) (ls : Array Slot), Cx D Y p s m args meth c → X s args B → s.heap.size = B + n0 → n0 ≤ h.length → Sim D B h s H → va_S (fun q => B ≤ q) s.heap H locs → lv_has ls Y.2.2.1 (pL B 0 L) → W p l e R s m args below meth c H locs (h.length - n0) n (E below args s B) (F0 m pc ls (st.map (pv B)))
theorem pv_cat (B : Nat) (v : Value) : (pv B v).category = v.category := by cases v <;> rfl
theorem pL_mem {B : Nat} {q : Nat × Value} : ∀ {L : List (Option Value)} {i : Nat}, q ∈ pL B i L ↔ ∃ (k : Nat) (v : Value), L[k]? = some (some v) ∧ q = (i + k, pv B v)
  | [], i => by simp [pL]
  | some v :: L, i => by
    rw [pL, List.mem_cons, pL_mem]
    constructor
    · rintro (rfl | ⟨k, w, h1, rfl⟩)
      · exact ⟨0, v, rfl, rfl⟩
      · exact ⟨k + 1, w, h1, by rw [Nat.add_assoc, Nat.add_comm 1 k]⟩
    · rintro ⟨k, w, h1, rfl⟩
      cases k with
      | zero => cases h1; exact Or.inl rfl
      | succ k => exact Or.inr ⟨k, w, h1, by rw [Nat.add_assoc, Nat.add_comm 1 k]⟩
  | none :: L, i => by
    rw [pL, pL_mem]
    constructor
    · rintro ⟨k, w, h1, rfl⟩
      exact ⟨k + 1, w, h1, by rw [Nat.add_assoc, Nat.add_comm 1 k]⟩
    · rintro ⟨k, w, h1, rfl⟩
      cases k with
      | zero => cases h1
      | succ k => exact ⟨k, w, h1, by rw [Nat.add_assoc, Nat.add_comm 1 k]⟩
theorem pL_get {B nL k : Nat} {ls : Array Slot} {L : List (Option Value)} {v : Value} (h : lv_has ls nL (pL B 0 L)) (hk : L[k]? = some (some v)) : ls[k]? = some (.val (pv B v)) :=
  h.2.2 (k, pv B v) (pL_mem.mpr ⟨k, v, hk, by rw [Nat.zero_add]⟩)
def c1 : Option Value → Bool
  | some v => v.category != 2
  | none => true
def c1at (L : List (Option Value)) : Nat → Bool
  | 0 => true
  | i + 1 => c1 (L.getD i none)
theorem pL_store {B nL i : Nat} {ls : Array Slot} {L : List (Option Value)} {v : Value} (h : lv_has ls nL ((i, pv B v) :: (pL B 0 L).filter (fun q => !(q.1 == i) && !(q.1 + 1 == i && q.2.category == 2)))) (hi : i < L.length) (hc : c1at L i = true) : lv_has ls nL (pL B 0 (L.set i (some v))) := by
  refine ⟨h.1, h.2.1, fun q hq => h.2.2 q ?_⟩
  obtain ⟨k, w, h1, rfl⟩ := pL_mem.mp hq
  rw [Nat.zero_add]
  by_cases hk : k = i
  · subst hk
    rw [List.getElem?_set_self hi] at h1
    cases h1
    exact List.mem_cons_self
  · rw [List.getElem?_set_ne (Ne.symm hk)] at h1
    refine List.mem_cons_of_mem _ (List.mem_filter.mpr ⟨pL_mem.mpr ⟨k, w, h1, by rw [Nat.zero_add]⟩, ?_⟩)
    simp only [Bool.and_eq_true, Bool.not_eq_true', beq_eq_false_iff_ne, Bool.and_eq_false_iff, pv_cat]
    refine ⟨hk, ?_⟩
    by_cases hk2 : k + 1 = i
    · subst hk2
      right
      simp only [c1at, List.getD_eq_getElem?_getD, h1, Option.getD_some, c1, bne_iff_ne] at hc
      exact hc
    · exact Or.inl hk2
theorem pL_store2 {B nL i : Nat} {ls : Array Slot} {L : List (Option Value)} {v : Value} (h : lv_has ls nL ((i, pv B v) :: (pL B 0 L).filter (fun q => !(q.1 == i) && (!(q.1 == i + 1) && !(q.1 + 1 == i && q.2.category == 2))))) (hi : i < L.length) (hc : c1at L i = true) : lv_has ls nL (pL B 0 ((L.set i (some v)).set (i + 1) none)) := by
  refine ⟨h.1, h.2.1, fun q hq => h.2.2 q ?_⟩
  obtain ⟨k, w, h1, rfl⟩ := pL_mem.mp hq
  rw [Nat.zero_add]
  by_cases hk3 : k = i + 1
  · subst hk3
    by_cases hl : i + 1 < (L.set i (some v)).length
    · rw [List.getElem?_set_self hl] at h1; cases h1
    · rw [List.getElem?_eq_none (by rw [List.length_set]; omega)] at h1; cases h1
  rw [List.getElem?_set_ne (Ne.symm hk3)] at h1
  by_cases hk : k = i
  · subst hk
    rw [List.getElem?_set_self hi] at h1
    cases h1
    exact List.mem_cons_self
  · rw [List.getElem?_set_ne (Ne.symm hk)] at h1
    refine List.mem_cons_of_mem _ (List.mem_filter.mpr ⟨pL_mem.mpr ⟨k, w, h1, by rw [Nat.zero_add]⟩, ?_⟩)
    simp only [Bool.and_eq_true, Bool.not_eq_true', beq_eq_false_iff_ne, Bool.and_eq_false_iff, pv_cat]
    refine ⟨hk, hk3, ?_⟩
    by_cases hk2 : k + 1 = i
    · subst hk2
      right
      simp only [c1at, List.getD_eq_getElem?_getD, h1, Option.getD_some, c1, bne_iff_ne] at hc
      exact hc
    · exact Or.inl hk2
section PW
variable {l : Launch} {D : va_G} {Y : PMth} {R : Room} {n0 : Nat} {X : State → Array Value → Nat → Prop} {E : List Frame → Array Value → State → Nat → State → Prop} {pc nx : Nat} {L : List (Option Value)} {st : List Value} {h : PH} {n : Nat}
theorem w_iadd {x y : Int32} (hd : dc Y.2.1 pc .iadd 1 nx)  (k : Wp l D Y R n0 X E nx L (.int (x + y) :: st) h n) : Wp l D Y R n0 X E pc L (.int y :: .int x :: st) h n := by
  intro p e s m args below meth c B H locs ls C hX h1 h2 h3 h4 h5
  obtain ⟨hd, rfl⟩ := hd
  exact lv_iadd C.1 C.2.1 hd (k p e s m args below meth c B H locs ls C hX h1 h2 h3 h4 h5)
theorem w_isub {x y : Int32} (hd : dc Y.2.1 pc .isub 1 nx)  (k : Wp l D Y R n0 X E nx L (.int (x - y) :: st) h n) : Wp l D Y R n0 X E pc L (.int y :: .int x :: st) h n := by
  intro p e s m args below meth c B H locs ls C hX h1 h2 h3 h4 h5
  obtain ⟨hd, rfl⟩ := hd
  exact lv_isub C.1 C.2.1 hd (k p e s m args below meth c B H locs ls C hX h1 h2 h3 h4 h5)
theorem w_imul {x y : Int32} (hd : dc Y.2.1 pc .imul 1 nx)  (k : Wp l D Y R n0 X E nx L (.int (x * y) :: st) h n) : Wp l D Y R n0 X E pc L (.int y :: .int x :: st) h n := by
  intro p e s m args below meth c B H locs ls C hX h1 h2 h3 h4 h5
  obtain ⟨hd, rfl⟩ := hd
  exact lv_imul C.1 C.2.1 hd (k p e s m args below meth c B H locs ls C hX h1 h2 h3 h4 h5)
theorem w_iand {x y : Int32} (hd : dc Y.2.1 pc .iand 1 nx)  (k : Wp l D Y R n0 X E nx L (.int (x &&& y) :: st) h n) : Wp l D Y R n0 X E pc L (.int y :: .int x :: st) h n := by
  intro p e s m args below meth c B H locs ls C hX h1 h2 h3 h4 h5
  obtain ⟨hd, rfl⟩ := hd
  exact lv_iand C.1 C.2.1 hd (k p e s m args below meth c B H locs ls C hX h1 h2 h3 h4 h5)
theorem w_ior {x y : Int32} (hd : dc Y.2.1 pc .ior 1 nx)  (k : Wp l D Y R n0 X E nx L (.int (x ||| y) :: st) h n) : Wp l D Y R n0 X E pc L (.int y :: .int x :: st) h n := by
  intro p e s m args below meth c B H locs ls C hX h1 h2 h3 h4 h5
  obtain ⟨hd, rfl⟩ := hd
  exact lv_ior C.1 C.2.1 hd (k p e s m args below meth c B H locs ls C hX h1 h2 h3 h4 h5)
theorem w_ixor {x y : Int32} (hd : dc Y.2.1 pc .ixor 1 nx)  (k : Wp l D Y R n0 X E nx L (.int (x ^^^ y) :: st) h n) : Wp l D Y R n0 X E pc L (.int y :: .int x :: st) h n := by
  intro p e s m args below meth c B H locs ls C hX h1 h2 h3 h4 h5
  obtain ⟨hd, rfl⟩ := hd
  exact lv_ixor C.1 C.2.1 hd (k p e s m args below meth c B H locs ls C hX h1 h2 h3 h4 h5)
theorem w_ishl {x y : Int32} (hd : dc Y.2.1 pc .ishl 1 nx)  (k : Wp l D Y R n0 X E nx L (.int (x <<< (y &&& 31)) :: st) h n) : Wp l D Y R n0 X E pc L (.int y :: .int x :: st) h n := by
  intro p e s m args below meth c B H locs ls C hX h1 h2 h3 h4 h5
  obtain ⟨hd, rfl⟩ := hd
  exact lv_ishl C.1 C.2.1 hd (k p e s m args below meth c B H locs ls C hX h1 h2 h3 h4 h5)
theorem w_ishr {x y : Int32} (hd : dc Y.2.1 pc .ishr 1 nx)  (k : Wp l D Y R n0 X E nx L (.int (x >>> (y &&& 31)) :: st) h n) : Wp l D Y R n0 X E pc L (.int y :: .int x :: st) h n := by
  intro p e s m args below meth c B H locs ls C hX h1 h2 h3 h4 h5
  obtain ⟨hd, rfl⟩ := hd
  exact lv_ishr C.1 C.2.1 hd (k p e s m args below meth c B H locs ls C hX h1 h2 h3 h4 h5)
theorem w_iushr {x y : Int32} (hd : dc Y.2.1 pc .iushr 1 nx)  (k : Wp l D Y R n0 X E nx L (.int ((x.toUInt32 >>> (y.toUInt32 &&& Int32.toUInt32 31)).toInt32) :: st) h n) : Wp l D Y R n0 X E pc L (.int y :: .int x :: st) h n := by
  intro p e s m args below meth c B H locs ls C hX h1 h2 h3 h4 h5
  obtain ⟨hd, rfl⟩ := hd
  exact lv_iushr C.1 C.2.1 hd rfl (k p e s m args below meth c B H locs ls C hX h1 h2 h3 h4 h5)
theorem w_idiv {x y : Int32} (hd : dc Y.2.1 pc .idiv 1 nx) (hne : ¬ y = 0) (k : Wp l D Y R n0 X E nx L (.int (x / y) :: st) h n) : Wp l D Y R n0 X E pc L (.int y :: .int x :: st) h n := by
  intro p e s m args below meth c B H locs ls C hX h1 h2 h3 h4 h5
  obtain ⟨hd, rfl⟩ := hd
  exact lv_idiv C.1 C.2.1 hd hne (k p e s m args below meth c B H locs ls C hX h1 h2 h3 h4 h5)
theorem w_irem {x y : Int32} (hd : dc Y.2.1 pc .irem 1 nx) (hne : ¬ y = 0) (k : Wp l D Y R n0 X E nx L (.int (x - x / y * y) :: st) h n) : Wp l D Y R n0 X E pc L (.int y :: .int x :: st) h n := by
  intro p e s m args below meth c B H locs ls C hX h1 h2 h3 h4 h5
  obtain ⟨hd, rfl⟩ := hd
  exact lv_irem C.1 C.2.1 hd hne (k p e s m args below meth c B H locs ls C hX h1 h2 h3 h4 h5)
theorem w_ladd {x y : Int64} (hd : dc Y.2.1 pc .ladd 1 nx)  (k : Wp l D Y R n0 X E nx L (.long (x + y) :: st) h n) : Wp l D Y R n0 X E pc L (.long y :: .long x :: st) h n := by
  intro p e s m args below meth c B H locs ls C hX h1 h2 h3 h4 h5
  obtain ⟨hd, rfl⟩ := hd
  exact lv_ladd C.1 C.2.1 hd (k p e s m args below meth c B H locs ls C hX h1 h2 h3 h4 h5)
theorem w_lsub {x y : Int64} (hd : dc Y.2.1 pc .lsub 1 nx)  (k : Wp l D Y R n0 X E nx L (.long (x - y) :: st) h n) : Wp l D Y R n0 X E pc L (.long y :: .long x :: st) h n := by
  intro p e s m args below meth c B H locs ls C hX h1 h2 h3 h4 h5
  obtain ⟨hd, rfl⟩ := hd
  exact lv_lsub C.1 C.2.1 hd (k p e s m args below meth c B H locs ls C hX h1 h2 h3 h4 h5)
theorem w_lmul {x y : Int64} (hd : dc Y.2.1 pc .lmul 1 nx)  (k : Wp l D Y R n0 X E nx L (.long (x * y) :: st) h n) : Wp l D Y R n0 X E pc L (.long y :: .long x :: st) h n := by
  intro p e s m args below meth c B H locs ls C hX h1 h2 h3 h4 h5
  obtain ⟨hd, rfl⟩ := hd
  exact lv_lmul C.1 C.2.1 hd (k p e s m args below meth c B H locs ls C hX h1 h2 h3 h4 h5)
theorem w_ldiv {x y : Int64} (hd : dc Y.2.1 pc .ldiv 1 nx) (hne : ¬ y = 0) (k : Wp l D Y R n0 X E nx L (.long (x / y) :: st) h n) : Wp l D Y R n0 X E pc L (.long y :: .long x :: st) h n := by
  intro p e s m args below meth c B H locs ls C hX h1 h2 h3 h4 h5
  obtain ⟨hd, rfl⟩ := hd
  exact lv_ldiv C.1 C.2.1 hd hne (k p e s m args below meth c B H locs ls C hX h1 h2 h3 h4 h5)
theorem w_lrem {x y : Int64} (hd : dc Y.2.1 pc .lrem 1 nx) (hne : ¬ y = 0) (k : Wp l D Y R n0 X E nx L (.long (x - x / y * y) :: st) h n) : Wp l D Y R n0 X E pc L (.long y :: .long x :: st) h n := by
  intro p e s m args below meth c B H locs ls C hX h1 h2 h3 h4 h5
  obtain ⟨hd, rfl⟩ := hd
  exact lv_lrem C.1 C.2.1 hd hne (k p e s m args below meth c B H locs ls C hX h1 h2 h3 h4 h5)
theorem w_lcmp {x y : Int64} (hd : dc Y.2.1 pc .lcmp 1 nx)  (k : Wp l D Y R n0 X E nx L (.int (lg_cmp x y) :: st) h n) : Wp l D Y R n0 X E pc L (.long y :: .long x :: st) h n := by
  intro p e s m args below meth c B H locs ls C hX h1 h2 h3 h4 h5
  obtain ⟨hd, rfl⟩ := hd
  exact W.lcmp C.1 C.2.1 hd (k p e s m args below meth c B H locs ls C hX h1 h2 h3 h4 h5)
theorem w_i2l {x : Int32} (hd : dc Y.2.1 pc .i2l 1 nx)  (k : Wp l D Y R n0 X E nx L (.long x.toInt64 :: st) h n) : Wp l D Y R n0 X E pc L (.int x :: st) h n := by
  intro p e s m args below meth c B H locs ls C hX h1 h2 h3 h4 h5
  obtain ⟨hd, rfl⟩ := hd
  exact lv_i2l C.1 C.2.1 hd rfl (k p e s m args below meth c B H locs ls C hX h1 h2 h3 h4 h5)
theorem w_iconst {z : Int} {v : Int32} (hd : dc Y.2.1 pc (.iconst z) 1 nx) (hv : Int32.ofInt z = v) (k : Wp l D Y R n0 X E nx L (.int v :: st) h n) : Wp l D Y R n0 X E pc L st h n := by
  intro p e s m args below meth c B H locs ls C hX h1 h2 h3 h4 h5
  obtain ⟨hd, rfl⟩ := hd
  exact lv_iconst C.1 C.2.1 hd hv (k p e s m args below meth c B H locs ls C hX h1 h2 h3 h4 h5)
theorem w_bipush {z : Int} {v : Int32} (hd : dc Y.2.1 pc (.bipush z) 2 nx) (hv : (Int8.ofInt z).toInt32 = v) (k : Wp l D Y R n0 X E nx L (.int v :: st) h n) : Wp l D Y R n0 X E pc L st h n := by
  intro p e s m args below meth c B H locs ls C hX h1 h2 h3 h4 h5
  obtain ⟨hd, rfl⟩ := hd
  exact lv_bipush C.1 C.2.1 hd hv (k p e s m args below meth c B H locs ls C hX h1 h2 h3 h4 h5)
theorem w_sipush {z : Int} {v : Int32} (hd : dc Y.2.1 pc (.sipush z) 3 nx) (hv : (Int16.ofInt z).toInt32 = v) (k : Wp l D Y R n0 X E nx L (.int v :: st) h n) : Wp l D Y R n0 X E pc L st h n := by
  intro p e s m args below meth c B H locs ls C hX h1 h2 h3 h4 h5
  obtain ⟨hd, rfl⟩ := hd
  exact lv_sipush C.1 C.2.1 hd hv (k p e s m args below meth c B H locs ls C hX h1 h2 h3 h4 h5)
theorem w_lconst {z : Fin 2} {v : Int64} (hd : dc Y.2.1 pc (.lconst z) 1 nx) (hv : Int64.ofNat (z : Nat) = v) (k : Wp l D Y R n0 X E nx L (.long v :: st) h n) : Wp l D Y R n0 X E pc L st h n := by
  intro p e s m args below meth c B H locs ls C hX h1 h2 h3 h4 h5
  obtain ⟨hd, rfl⟩ := hd
  exact lv_lconst C.1 C.2.1 hd hv (k p e s m args below meth c B H locs ls C hX h1 h2 h3 h4 h5)
theorem w_ldc {i : Nat} {v : Int32} (hd : dc Y.2.1 pc (.ldc i) 2 nx) (hw : Cond.constant Y.1.cls i v ∈ pTb) (k : Wp l D Y R n0 X E nx L (.int v :: st) h n) : Wp l D Y R n0 X E pc L st h n := by
  intro p e s m args below meth c B H locs ls C hX h1 h2 h3 h4 h5
  obtain ⟨hd, rfl⟩ := hd
  exact lv_ldc C.1 C.2.1 C.2.2.2.2.1 (C.2.2.2.2.2.1 _ hw) hd (k p e s m args below meth c B H locs ls C hX h1 h2 h3 h4 h5)
theorem w_ldcw {i : Nat} {v : Int32} (hd : dc Y.2.1 pc (.ldc_w i) 3 nx) (hw : Cond.constant Y.1.cls i v ∈ pTb) (k : Wp l D Y R n0 X E nx L (.int v :: st) h n) : Wp l D Y R n0 X E pc L st h n := by
  intro p e s m args below meth c B H locs ls C hX h1 h2 h3 h4 h5
  obtain ⟨hd, rfl⟩ := hd
  exact lv_ldcw C.1 C.2.1 C.2.2.2.2.1 (C.2.2.2.2.2.1 _ hw) hd (k p e s m args below meth c B H locs ls C hX h1 h2 h3 h4 h5)
theorem w_ldc2 {i : Nat} {v : Int64} (hd : dc Y.2.1 pc (.ldc2_w i) 3 nx) (hw : Cond.constantLong Y.1.cls i v ∈ pTb) (k : Wp l D Y R n0 X E nx L (.long v :: st) h n) : Wp l D Y R n0 X E pc L st h n := by
  intro p e s m args below meth c B H locs ls C hX h1 h2 h3 h4 h5
  obtain ⟨hd, rfl⟩ := hd
  exact lv_ldc2 C.1 C.2.1 C.2.2.2.2.1 (C.2.2.2.2.2.1 _ hw) hd (k p e s m args below meth c B H locs ls C hX h1 h2 h3 h4 h5)
theorem w_dup {v : Value} (hd : dc Y.2.1 pc .dup 1 nx) (hv : v.category = 1) (k : Wp l D Y R n0 X E nx L (v :: v :: st) h n) : Wp l D Y R n0 X E pc L (v :: st) h n := by
  intro p e s m args below meth c B H locs ls C hX h1 h2 h3 h4 h5
  obtain ⟨hd, rfl⟩ := hd
  exact lv_dup C.1 C.2.1 hd (by rw [pv_cat]; exact hv) (k p e s m args below meth c B H locs ls C hX h1 h2 h3 h4 h5)
theorem w_pop {v : Value} (hd : dc Y.2.1 pc .pop 1 nx) (hv : v.category = 1) (k : Wp l D Y R n0 X E nx L st h n) : Wp l D Y R n0 X E pc L (v :: st) h n := by
  intro p e s m args below meth c B H locs ls C hX h1 h2 h3 h4 h5
  obtain ⟨hd, rfl⟩ := hd
  exact lv_pop C.1 C.2.1 hd (by rw [pv_cat]; exact hv) (k p e s m args below meth c B H locs ls C hX h1 h2 h3 h4 h5)
theorem w_dup2 {v u : Value} (hd : dc Y.2.1 pc .dup2 1 nx) (hv : v.category = 1) (hu : u.category = 1) (k : Wp l D Y R n0 X E nx L (v :: u :: v :: u :: st) h n) : Wp l D Y R n0 X E pc L (v :: u :: st) h n := by
  intro p e s m args below meth c B H locs ls C hX h1 h2 h3 h4 h5
  obtain ⟨hd, rfl⟩ := hd
  exact lv_dup2_11 C.1 C.2.1 hd (by rw [pv_cat]; exact hv) (by rw [pv_cat]; exact hu) (k p e s m args below meth c B H locs ls C hX h1 h2 h3 h4 h5)
theorem w_iload_n {k : Fin 4} {x : Int32} (hd : dc Y.2.1 pc (.iload_n k) 1 nx) (hk : L[(k : Nat)]? = some (some (.int x))) (kk : Wp l D Y R n0 X E nx L (.int x :: st) h n) : Wp l D Y R n0 X E pc L st h n := by
  intro p e s m args below meth c B H locs ls C hX h1 h2 h3 h4 h5
  obtain ⟨hd, rfl⟩ := hd
  exact lv_iload_n C.1 C.2.1 hd rfl (pL_get h5 hk) (kk p e s m args below meth c B H locs ls C hX h1 h2 h3 h4 h5)
theorem w_iload {k : Nat} {x : Int32} (hd : dc Y.2.1 pc (.iload k) 2 nx) (hk : L[k]? = some (some (.int x))) (kk : Wp l D Y R n0 X E nx L (.int x :: st) h n) : Wp l D Y R n0 X E pc L st h n := by
  intro p e s m args below meth c B H locs ls C hX h1 h2 h3 h4 h5
  obtain ⟨hd, rfl⟩ := hd
  exact lv_iload C.1 C.2.1 hd (pL_get h5 hk) (kk p e s m args below meth c B H locs ls C hX h1 h2 h3 h4 h5)
theorem w_lload_n {k : Fin 4} {x : Int64} (hd : dc Y.2.1 pc (.lload_n k) 1 nx) (hk : L[(k : Nat)]? = some (some (.long x))) (kk : Wp l D Y R n0 X E nx L (.long x :: st) h n) : Wp l D Y R n0 X E pc L st h n := by
  intro p e s m args below meth c B H locs ls C hX h1 h2 h3 h4 h5
  obtain ⟨hd, rfl⟩ := hd
  exact lv_lload_n C.1 C.2.1 hd rfl (pL_get h5 hk) (kk p e s m args below meth c B H locs ls C hX h1 h2 h3 h4 h5)
theorem w_lload {k : Nat} {x : Int64} (hd : dc Y.2.1 pc (.lload k) 2 nx) (hk : L[k]? = some (some (.long x))) (kk : Wp l D Y R n0 X E nx L (.long x :: st) h n) : Wp l D Y R n0 X E pc L st h n := by
  intro p e s m args below meth c B H locs ls C hX h1 h2 h3 h4 h5
  obtain ⟨hd, rfl⟩ := hd
  exact lv_lload C.1 C.2.1 hd (pL_get h5 hk) (kk p e s m args below meth c B H locs ls C hX h1 h2 h3 h4 h5)
theorem w_aload_n {k : Fin 4} {x : Nat} (hd : dc Y.2.1 pc (.aload_n k) 1 nx) (hk : L[(k : Nat)]? = some (some (.ref x))) (kk : Wp l D Y R n0 X E nx L (.ref x :: st) h n) : Wp l D Y R n0 X E pc L st h n := by
  intro p e s m args below meth c B H locs ls C hX h1 h2 h3 h4 h5
  obtain ⟨hd, rfl⟩ := hd
  exact lv_aload_n C.1 C.2.1 hd rfl (pL_get h5 hk) (kk p e s m args below meth c B H locs ls C hX h1 h2 h3 h4 h5)
theorem w_aload_nN {k : Fin 4} (hd : dc Y.2.1 pc (.aload_n k) 1 nx) (hk : L[(k : Nat)]? = some (some .null)) (kk : Wp l D Y R n0 X E nx L (.null :: st) h n) : Wp l D Y R n0 X E pc L st h n := by
  intro p e s m args below meth c B H locs ls C hX h1 h2 h3 h4 h5
  obtain ⟨hd, rfl⟩ := hd
  exact lv_aload_nN C.1 C.2.1 hd rfl (pL_get h5 hk) (kk p e s m args below meth c B H locs ls C hX h1 h2 h3 h4 h5)
theorem w_istore_n {k : Fin 4} {i : Nat} {x : Int32} (hd : dc Y.2.1 pc (.istore_n k) 1 nx) (hki : (k : Nat) = i) (hn : i < Y.2.2.1) (hi : i < L.length) (hc : c1at L i = true) (kk : Wp l D Y R n0 X E nx (L.set i (some (.int x))) st h n) : Wp l D Y R n0 X E pc L (.int x :: st) h n := by
  intro p e s m args below meth c B H locs ls C hX h1 h2 h3 h4 h5
  obtain ⟨hd, rfl⟩ := hd
  exact lv_istore_n C.1 C.2.1 hd hki h5 hn rfl (fun ls' hl => kk p e s m args below meth c B H locs ls' C hX h1 h2 h3 h4 (pL_store hl hi hc))
theorem w_istore {i : Nat} {x : Int32} (hd : dc Y.2.1 pc (.istore i) 2 nx) (hn : i < Y.2.2.1) (hi : i < L.length) (hc : c1at L i = true) (kk : Wp l D Y R n0 X E nx (L.set i (some (.int x))) st h n) : Wp l D Y R n0 X E pc L (.int x :: st) h n := by
  intro p e s m args below meth c B H locs ls C hX h1 h2 h3 h4 h5
  obtain ⟨hd, rfl⟩ := hd
  exact lv_istore C.1 C.2.1 hd h5 hn rfl (fun ls' hl => kk p e s m args below meth c B H locs ls' C hX h1 h2 h3 h4 (pL_store hl hi hc))
theorem w_lstore_n {k : Fin 4} {i : Nat} {x : Int64} (hd : dc Y.2.1 pc (.lstore_n k) 1 nx) (hki : (k : Nat) = i) (hn : i + 1 < Y.2.2.1) (hi : i < L.length) (hc : c1at L i = true) (kk : Wp l D Y R n0 X E nx ((L.set i (some (.long x))).set (i + 1) none) st h n) : Wp l D Y R n0 X E pc L (.long x :: st) h n := by
  intro p e s m args below meth c B H locs ls C hX h1 h2 h3 h4 h5
  obtain ⟨hd, rfl⟩ := hd
  exact lv_lstore_n C.1 C.2.1 hd hki h5 hn rfl (fun ls' hl => kk p e s m args below meth c B H locs ls' C hX h1 h2 h3 h4 (pL_store2 hl hi hc))
theorem w_lstore {i : Nat} {x : Int64} (hd : dc Y.2.1 pc (.lstore i) 2 nx) (hn : i + 1 < Y.2.2.1) (hi : i < L.length) (hc : c1at L i = true) (kk : Wp l D Y R n0 X E nx ((L.set i (some (.long x))).set (i + 1) none) st h n) : Wp l D Y R n0 X E pc L (.long x :: st) h n := by
  intro p e s m args below meth c B H locs ls C hX h1 h2 h3 h4 h5
  obtain ⟨hd, rfl⟩ := hd
  exact lv_lstore C.1 C.2.1 hd h5 hn rfl (fun ls' hl => kk p e s m args below meth c B H locs ls' C hX h1 h2 h3 h4 (pL_store2 hl hi hc))
theorem w_astore_n {k : Fin 4} {i : Nat} {x : Nat} (hd : dc Y.2.1 pc (.astore_n k) 1 nx) (hki : (k : Nat) = i) (hn : i < Y.2.2.1) (hi : i < L.length) (hc : c1at L i = true) (kk : Wp l D Y R n0 X E nx (L.set i (some (.ref x))) st h n) : Wp l D Y R n0 X E pc L (.ref x :: st) h n := by
  intro p e s m args below meth c B H locs ls C hX h1 h2 h3 h4 h5
  obtain ⟨hd, rfl⟩ := hd
  exact lv_astore_n C.1 C.2.1 hd hki h5 hn rfl (fun ls' hl => kk p e s m args below meth c B H locs ls' C hX h1 h2 h3 h4 (pL_store hl hi hc))
theorem w_astore_nN {k : Fin 4} {i : Nat} (hd : dc Y.2.1 pc (.astore_n k) 1 nx) (hki : (k : Nat) = i) (hn : i < Y.2.2.1) (hi : i < L.length) (hc : c1at L i = true) (kk : Wp l D Y R n0 X E nx (L.set i (some .null)) st h n) : Wp l D Y R n0 X E pc L (.null :: st) h n := by
  intro p e s m args below meth c B H locs ls C hX h1 h2 h3 h4 h5
  obtain ⟨hd, rfl⟩ := hd
  exact lv_astore_nN C.1 C.2.1 hd hki h5 hn rfl (fun ls' hl => kk p e s m args below meth c B H locs ls' C hX h1 h2 h3 h4 (pL_store hl hi hc))
theorem w_iinc {i : Nat} {z : Int} {x v : Int32} (hd : dc Y.2.1 pc (.iinc i z) 3 nx) (hk : L[i]? = some (some (.int x))) (hv : Int32.ofInt z = v) (hn : i < Y.2.2.1) (hc : c1at L i = true) (kk : Wp l D Y R n0 X E nx (L.set i (some (.int (x + v)))) st h n) : Wp l D Y R n0 X E pc L st h n := by
  intro p e s m args below meth c B H locs ls C hX h1 h2 h3 h4 h5
  obtain ⟨hd, rfl⟩ := hd
  have hi : i < L.length := (List.getElem?_eq_some_iff.mp hk).1
  obtain ⟨j, hj⟩ := List.getElem?_of_mem (pL_mem (B := B) (i := 0).mpr ⟨i, _, hk, by rw [Nat.zero_add]⟩)
  subst hv
  exact lv_iinc C.1 C.2.1 hd h5 hj rfl hn rfl (fun ls' hl => kk p e s m args below meth c B H locs ls' C hX h1 h2 h3 h4 (pL_store hl hi hc))
theorem w_istore_0 {a0 : Option Value} {x : Int32} (hd : dc Y.2.1 pc (.istore_n 0) 1 nx) (hn : 0 < Y.2.2.1)  (kk : Wp l D Y R n0 X E nx (some (.int x) :: L) st h n) : Wp l D Y R n0 X E pc (a0 :: L) (.int x :: st) h n := w_istore_n (i := 0) hd rfl hn (by simp) rfl kk
theorem w_astore_0 {a0 : Option Value} {x : Nat} (hd : dc Y.2.1 pc (.astore_n 0) 1 nx) (hn : 0 < Y.2.2.1)  (kk : Wp l D Y R n0 X E nx (some (.ref x) :: L) st h n) : Wp l D Y R n0 X E pc (a0 :: L) (.ref x :: st) h n := w_astore_n (i := 0) hd rfl hn (by simp) rfl kk
theorem w_astoreN_0 {a0 : Option Value} (hd : dc Y.2.1 pc (.astore_n 0) 1 nx) (hn : 0 < Y.2.2.1)  (kk : Wp l D Y R n0 X E nx (some .null :: L) st h n) : Wp l D Y R n0 X E pc (a0 :: L) (.null :: st) h n := w_astore_nN (i := 0) hd rfl hn (by simp) rfl kk
theorem w_iinc_0 {z : Int} {x v : Int32} (hd : dc Y.2.1 pc (.iinc 0 z) 3 nx) (hv : Int32.ofInt z = v) (hn : 0 < Y.2.2.1) (kk : Wp l D Y R n0 X E nx (some (.int (x + v)) :: L) st h n) : Wp l D Y R n0 X E pc (some (.int x) :: L) st h n := w_iinc (i := 0) hd rfl hv hn rfl kk
theorem w_lstore_0 {a0 a1 : Option Value} {x : Int64} (hd : dc Y.2.1 pc (.lstore_n 0) 1 nx) (hn : 0 + 1 < Y.2.2.1)  (kk : Wp l D Y R n0 X E nx (some (.long x) :: none :: L) st h n) : Wp l D Y R n0 X E pc (a0 :: a1 :: L) (.long x :: st) h n := w_lstore_n (i := 0) hd rfl hn (by simp) rfl kk
theorem w_istore_1 {a0 a1 : Option Value} {x : Int32} (hd : dc Y.2.1 pc (.istore_n 1) 1 nx) (hn : 1 < Y.2.2.1) (hc : c1 a0 = true) (kk : Wp l D Y R n0 X E nx (a0 :: some (.int x) :: L) st h n) : Wp l D Y R n0 X E pc (a0 :: a1 :: L) (.int x :: st) h n := w_istore_n (i := 1) hd rfl hn (by simp) hc kk
theorem w_astore_1 {a0 a1 : Option Value} {x : Nat} (hd : dc Y.2.1 pc (.astore_n 1) 1 nx) (hn : 1 < Y.2.2.1) (hc : c1 a0 = true) (kk : Wp l D Y R n0 X E nx (a0 :: some (.ref x) :: L) st h n) : Wp l D Y R n0 X E pc (a0 :: a1 :: L) (.ref x :: st) h n := w_astore_n (i := 1) hd rfl hn (by simp) hc kk
theorem w_astoreN_1 {a0 a1 : Option Value} (hd : dc Y.2.1 pc (.astore_n 1) 1 nx) (hn : 1 < Y.2.2.1) (hc : c1 a0 = true) (kk : Wp l D Y R n0 X E nx (a0 :: some .null :: L) st h n) : Wp l D Y R n0 X E pc (a0 :: a1 :: L) (.null :: st) h n := w_astore_nN (i := 1) hd rfl hn (by simp) hc kk
theorem w_iinc_1 {a0 : Option Value} {z : Int} {x v : Int32} (hd : dc Y.2.1 pc (.iinc 1 z) 3 nx) (hv : Int32.ofInt z = v) (hn : 1 < Y.2.2.1) (hc : c1 a0 = true) (kk : Wp l D Y R n0 X E nx (a0 :: some (.int (x + v)) :: L) st h n) : Wp l D Y R n0 X E pc (a0 :: some (.int x) :: L) st h n := w_iinc (i := 1) hd rfl hv hn hc kk
theorem w_lstore_1 {a0 a1 a2 : Option Value} {x : Int64} (hd : dc Y.2.1 pc (.lstore_n 1) 1 nx) (hn : 1 + 1 < Y.2.2.1) (hc : c1 a0 = true) (kk : Wp l D Y R n0 X E nx (a0 :: some (.long x) :: none :: L) st h n) : Wp l D Y R n0 X E pc (a0 :: a1 :: a2 :: L) (.long x :: st) h n := w_lstore_n (i := 1) hd rfl hn (by simp) hc kk
theorem w_istore_2 {a0 a1 a2 : Option Value} {x : Int32} (hd : dc Y.2.1 pc (.istore_n 2) 1 nx) (hn : 2 < Y.2.2.1) (hc : c1 a1 = true) (kk : Wp l D Y R n0 X E nx (a0 :: a1 :: some (.int x) :: L) st h n) : Wp l D Y R n0 X E pc (a0 :: a1 :: a2 :: L) (.int x :: st) h n := w_istore_n (i := 2) hd rfl hn (by simp) hc kk
theorem w_astore_2 {a0 a1 a2 : Option Value} {x : Nat} (hd : dc Y.2.1 pc (.astore_n 2) 1 nx) (hn : 2 < Y.2.2.1) (hc : c1 a1 = true) (kk : Wp l D Y R n0 X E nx (a0 :: a1 :: some (.ref x) :: L) st h n) : Wp l D Y R n0 X E pc (a0 :: a1 :: a2 :: L) (.ref x :: st) h n := w_astore_n (i := 2) hd rfl hn (by simp) hc kk
theorem w_astoreN_2 {a0 a1 a2 : Option Value} (hd : dc Y.2.1 pc (.astore_n 2) 1 nx) (hn : 2 < Y.2.2.1) (hc : c1 a1 = true) (kk : Wp l D Y R n0 X E nx (a0 :: a1 :: some .null :: L) st h n) : Wp l D Y R n0 X E pc (a0 :: a1 :: a2 :: L) (.null :: st) h n := w_astore_nN (i := 2) hd rfl hn (by simp) hc kk
theorem w_iinc_2 {a0 a1 : Option Value} {z : Int} {x v : Int32} (hd : dc Y.2.1 pc (.iinc 2 z) 3 nx) (hv : Int32.ofInt z = v) (hn : 2 < Y.2.2.1) (hc : c1 a1 = true) (kk : Wp l D Y R n0 X E nx (a0 :: a1 :: some (.int (x + v)) :: L) st h n) : Wp l D Y R n0 X E pc (a0 :: a1 :: some (.int x) :: L) st h n := w_iinc (i := 2) hd rfl hv hn hc kk
theorem w_lstore_2 {a0 a1 a2 a3 : Option Value} {x : Int64} (hd : dc Y.2.1 pc (.lstore_n 2) 1 nx) (hn : 2 + 1 < Y.2.2.1) (hc : c1 a1 = true) (kk : Wp l D Y R n0 X E nx (a0 :: a1 :: some (.long x) :: none :: L) st h n) : Wp l D Y R n0 X E pc (a0 :: a1 :: a2 :: a3 :: L) (.long x :: st) h n := w_lstore_n (i := 2) hd rfl hn (by simp) hc kk
theorem w_istore_3 {a0 a1 a2 a3 : Option Value} {x : Int32} (hd : dc Y.2.1 pc (.istore_n 3) 1 nx) (hn : 3 < Y.2.2.1) (hc : c1 a2 = true) (kk : Wp l D Y R n0 X E nx (a0 :: a1 :: a2 :: some (.int x) :: L) st h n) : Wp l D Y R n0 X E pc (a0 :: a1 :: a2 :: a3 :: L) (.int x :: st) h n := w_istore_n (i := 3) hd rfl hn (by simp) hc kk
theorem w_astore_3 {a0 a1 a2 a3 : Option Value} {x : Nat} (hd : dc Y.2.1 pc (.astore_n 3) 1 nx) (hn : 3 < Y.2.2.1) (hc : c1 a2 = true) (kk : Wp l D Y R n0 X E nx (a0 :: a1 :: a2 :: some (.ref x) :: L) st h n) : Wp l D Y R n0 X E pc (a0 :: a1 :: a2 :: a3 :: L) (.ref x :: st) h n := w_astore_n (i := 3) hd rfl hn (by simp) hc kk
theorem w_astoreN_3 {a0 a1 a2 a3 : Option Value} (hd : dc Y.2.1 pc (.astore_n 3) 1 nx) (hn : 3 < Y.2.2.1) (hc : c1 a2 = true) (kk : Wp l D Y R n0 X E nx (a0 :: a1 :: a2 :: some .null :: L) st h n) : Wp l D Y R n0 X E pc (a0 :: a1 :: a2 :: a3 :: L) (.null :: st) h n := w_astore_nN (i := 3) hd rfl hn (by simp) hc kk
theorem w_iinc_3 {a0 a1 a2 : Option Value} {z : Int} {x v : Int32} (hd : dc Y.2.1 pc (.iinc 3 z) 3 nx) (hv : Int32.ofInt z = v) (hn : 3 < Y.2.2.1) (hc : c1 a2 = true) (kk : Wp l D Y R n0 X E nx (a0 :: a1 :: a2 :: some (.int (x + v)) :: L) st h n) : Wp l D Y R n0 X E pc (a0 :: a1 :: a2 :: some (.int x) :: L) st h n := w_iinc (i := 3) hd rfl hv hn hc kk
theorem w_lstore_3 {a0 a1 a2 a3 a4 : Option Value} {x : Int64} (hd : dc Y.2.1 pc (.lstore_n 3) 1 nx) (hn : 3 + 1 < Y.2.2.1) (hc : c1 a2 = true) (kk : Wp l D Y R n0 X E nx (a0 :: a1 :: a2 :: some (.long x) :: none :: L) st h n) : Wp l D Y R n0 X E pc (a0 :: a1 :: a2 :: a3 :: a4 :: L) (.long x :: st) h n := w_lstore_n (i := 3) hd rfl hn (by simp) hc kk
theorem w_istore_4 {a0 a1 a2 a3 a4 : Option Value} {x : Int32} (hd : dc Y.2.1 pc (.istore 4) 2 nx) (hn : 4 < Y.2.2.1) (hc : c1 a3 = true) (kk : Wp l D Y R n0 X E nx (a0 :: a1 :: a2 :: a3 :: some (.int x) :: L) st h n) : Wp l D Y R n0 X E pc (a0 :: a1 :: a2 :: a3 :: a4 :: L) (.int x :: st) h n := w_istore (i := 4) hd hn (by simp) hc kk
theorem w_iinc_4 {a0 a1 a2 a3 : Option Value} {z : Int} {x v : Int32} (hd : dc Y.2.1 pc (.iinc 4 z) 3 nx) (hv : Int32.ofInt z = v) (hn : 4 < Y.2.2.1) (hc : c1 a3 = true) (kk : Wp l D Y R n0 X E nx (a0 :: a1 :: a2 :: a3 :: some (.int (x + v)) :: L) st h n) : Wp l D Y R n0 X E pc (a0 :: a1 :: a2 :: a3 :: some (.int x) :: L) st h n := w_iinc (i := 4) hd rfl hv hn hc kk
theorem w_lstore_4 {a0 a1 a2 a3 a4 a5 : Option Value} {x : Int64} (hd : dc Y.2.1 pc (.lstore 4) 2 nx) (hn : 4 + 1 < Y.2.2.1) (hc : c1 a3 = true) (kk : Wp l D Y R n0 X E nx (a0 :: a1 :: a2 :: a3 :: some (.long x) :: none :: L) st h n) : Wp l D Y R n0 X E pc (a0 :: a1 :: a2 :: a3 :: a4 :: a5 :: L) (.long x :: st) h n := w_lstore (i := 4) hd hn (by simp) hc kk
theorem w_istore_5 {a0 a1 a2 a3 a4 a5 : Option Value} {x : Int32} (hd : dc Y.2.1 pc (.istore 5) 2 nx) (hn : 5 < Y.2.2.1) (hc : c1 a4 = true) (kk : Wp l D Y R n0 X E nx (a0 :: a1 :: a2 :: a3 :: a4 :: some (.int x) :: L) st h n) : Wp l D Y R n0 X E pc (a0 :: a1 :: a2 :: a3 :: a4 :: a5 :: L) (.int x :: st) h n := w_istore (i := 5) hd hn (by simp) hc kk
theorem w_iinc_5 {a0 a1 a2 a3 a4 : Option Value} {z : Int} {x v : Int32} (hd : dc Y.2.1 pc (.iinc 5 z) 3 nx) (hv : Int32.ofInt z = v) (hn : 5 < Y.2.2.1) (hc : c1 a4 = true) (kk : Wp l D Y R n0 X E nx (a0 :: a1 :: a2 :: a3 :: a4 :: some (.int (x + v)) :: L) st h n) : Wp l D Y R n0 X E pc (a0 :: a1 :: a2 :: a3 :: a4 :: some (.int x) :: L) st h n := w_iinc (i := 5) hd rfl hv hn hc kk
theorem w_lstore_5 {a0 a1 a2 a3 a4 a5 a6 : Option Value} {x : Int64} (hd : dc Y.2.1 pc (.lstore 5) 2 nx) (hn : 5 + 1 < Y.2.2.1) (hc : c1 a4 = true) (kk : Wp l D Y R n0 X E nx (a0 :: a1 :: a2 :: a3 :: a4 :: some (.long x) :: none :: L) st h n) : Wp l D Y R n0 X E pc (a0 :: a1 :: a2 :: a3 :: a4 :: a5 :: a6 :: L) (.long x :: st) h n := w_lstore (i := 5) hd hn (by simp) hc kk
theorem w_istore_6 {a0 a1 a2 a3 a4 a5 a6 : Option Value} {x : Int32} (hd : dc Y.2.1 pc (.istore 6) 2 nx) (hn : 6 < Y.2.2.1) (hc : c1 a5 = true) (kk : Wp l D Y R n0 X E nx (a0 :: a1 :: a2 :: a3 :: a4 :: a5 :: some (.int x) :: L) st h n) : Wp l D Y R n0 X E pc (a0 :: a1 :: a2 :: a3 :: a4 :: a5 :: a6 :: L) (.int x :: st) h n := w_istore (i := 6) hd hn (by simp) hc kk
theorem w_iinc_6 {a0 a1 a2 a3 a4 a5 : Option Value} {z : Int} {x v : Int32} (hd : dc Y.2.1 pc (.iinc 6 z) 3 nx) (hv : Int32.ofInt z = v) (hn : 6 < Y.2.2.1) (hc : c1 a5 = true) (kk : Wp l D Y R n0 X E nx (a0 :: a1 :: a2 :: a3 :: a4 :: a5 :: some (.int (x + v)) :: L) st h n) : Wp l D Y R n0 X E pc (a0 :: a1 :: a2 :: a3 :: a4 :: a5 :: some (.int x) :: L) st h n := w_iinc (i := 6) hd rfl hv hn hc kk
theorem w_lstore_6 {a0 a1 a2 a3 a4 a5 a6 a7 : Option Value} {x : Int64} (hd : dc Y.2.1 pc (.lstore 6) 2 nx) (hn : 6 + 1 < Y.2.2.1) (hc : c1 a5 = true) (kk : Wp l D Y R n0 X E nx (a0 :: a1 :: a2 :: a3 :: a4 :: a5 :: some (.long x) :: none :: L) st h n) : Wp l D Y R n0 X E pc (a0 :: a1 :: a2 :: a3 :: a4 :: a5 :: a6 :: a7 :: L) (.long x :: st) h n := w_lstore (i := 6) hd hn (by simp) hc kk
theorem w_istore_7 {a0 a1 a2 a3 a4 a5 a6 a7 : Option Value} {x : Int32} (hd : dc Y.2.1 pc (.istore 7) 2 nx) (hn : 7 < Y.2.2.1) (hc : c1 a6 = true) (kk : Wp l D Y R n0 X E nx (a0 :: a1 :: a2 :: a3 :: a4 :: a5 :: a6 :: some (.int x) :: L) st h n) : Wp l D Y R n0 X E pc (a0 :: a1 :: a2 :: a3 :: a4 :: a5 :: a6 :: a7 :: L) (.int x :: st) h n := w_istore (i := 7) hd hn (by simp) hc kk
theorem w_iinc_7 {a0 a1 a2 a3 a4 a5 a6 : Option Value} {z : Int} {x v : Int32} (hd : dc Y.2.1 pc (.iinc 7 z) 3 nx) (hv : Int32.ofInt z = v) (hn : 7 < Y.2.2.1) (hc : c1 a6 = true) (kk : Wp l D Y R n0 X E nx (a0 :: a1 :: a2 :: a3 :: a4 :: a5 :: a6 :: some (.int (x + v)) :: L) st h n) : Wp l D Y R n0 X E pc (a0 :: a1 :: a2 :: a3 :: a4 :: a5 :: a6 :: some (.int x) :: L) st h n := w_iinc (i := 7) hd rfl hv hn hc kk
theorem w_lstore_7 {a0 a1 a2 a3 a4 a5 a6 a7 a8 : Option Value} {x : Int64} (hd : dc Y.2.1 pc (.lstore 7) 2 nx) (hn : 7 + 1 < Y.2.2.1) (hc : c1 a6 = true) (kk : Wp l D Y R n0 X E nx (a0 :: a1 :: a2 :: a3 :: a4 :: a5 :: a6 :: some (.long x) :: none :: L) st h n) : Wp l D Y R n0 X E pc (a0 :: a1 :: a2 :: a3 :: a4 :: a5 :: a6 :: a7 :: a8 :: L) (.long x :: st) h n := w_lstore (i := 7) hd hn (by simp) hc kk
theorem w_istore_8 {a0 a1 a2 a3 a4 a5 a6 a7 a8 : Option Value} {x : Int32} (hd : dc Y.2.1 pc (.istore 8) 2 nx) (hn : 8 < Y.2.2.1) (hc : c1 a7 = true) (kk : Wp l D Y R n0 X E nx (a0 :: a1 :: a2 :: a3 :: a4 :: a5 :: a6 :: a7 :: some (.int x) :: L) st h n) : Wp l D Y R n0 X E pc (a0 :: a1 :: a2 :: a3 :: a4 :: a5 :: a6 :: a7 :: a8 :: L) (.int x :: st) h n := w_istore (i := 8) hd hn (by simp) hc kk
theorem w_iinc_8 {a0 a1 a2 a3 a4 a5 a6 a7 : Option Value} {z : Int} {x v : Int32} (hd : dc Y.2.1 pc (.iinc 8 z) 3 nx) (hv : Int32.ofInt z = v) (hn : 8 < Y.2.2.1) (hc : c1 a7 = true) (kk : Wp l D Y R n0 X E nx (a0 :: a1 :: a2 :: a3 :: a4 :: a5 :: a6 :: a7 :: some (.int (x + v)) :: L) st h n) : Wp l D Y R n0 X E pc (a0 :: a1 :: a2 :: a3 :: a4 :: a5 :: a6 :: a7 :: some (.int x) :: L) st h n := w_iinc (i := 8) hd rfl hv hn hc kk
theorem w_lstore_8 {a0 a1 a2 a3 a4 a5 a6 a7 a8 a9 : Option Value} {x : Int64} (hd : dc Y.2.1 pc (.lstore 8) 2 nx) (hn : 8 + 1 < Y.2.2.1) (hc : c1 a7 = true) (kk : Wp l D Y R n0 X E nx (a0 :: a1 :: a2 :: a3 :: a4 :: a5 :: a6 :: a7 :: some (.long x) :: none :: L) st h n) : Wp l D Y R n0 X E pc (a0 :: a1 :: a2 :: a3 :: a4 :: a5 :: a6 :: a7 :: a8 :: a9 :: L) (.long x :: st) h n := w_lstore (i := 8) hd hn (by simp) hc kk
theorem w_istore_9 {a0 a1 a2 a3 a4 a5 a6 a7 a8 a9 : Option Value} {x : Int32} (hd : dc Y.2.1 pc (.istore 9) 2 nx) (hn : 9 < Y.2.2.1) (hc : c1 a8 = true) (kk : Wp l D Y R n0 X E nx (a0 :: a1 :: a2 :: a3 :: a4 :: a5 :: a6 :: a7 :: a8 :: some (.int x) :: L) st h n) : Wp l D Y R n0 X E pc (a0 :: a1 :: a2 :: a3 :: a4 :: a5 :: a6 :: a7 :: a8 :: a9 :: L) (.int x :: st) h n := w_istore (i := 9) hd hn (by simp) hc kk
theorem w_iinc_9 {a0 a1 a2 a3 a4 a5 a6 a7 a8 : Option Value} {z : Int} {x v : Int32} (hd : dc Y.2.1 pc (.iinc 9 z) 3 nx) (hv : Int32.ofInt z = v) (hn : 9 < Y.2.2.1) (hc : c1 a8 = true) (kk : Wp l D Y R n0 X E nx (a0 :: a1 :: a2 :: a3 :: a4 :: a5 :: a6 :: a7 :: a8 :: some (.int (x + v)) :: L) st h n) : Wp l D Y R n0 X E pc (a0 :: a1 :: a2 :: a3 :: a4 :: a5 :: a6 :: a7 :: a8 :: some (.int x) :: L) st h n := w_iinc (i := 9) hd rfl hv hn hc kk
theorem w_lstore_9 {a0 a1 a2 a3 a4 a5 a6 a7 a8 a9 a10 : Option Value} {x : Int64} (hd : dc Y.2.1 pc (.lstore 9) 2 nx) (hn : 9 + 1 < Y.2.2.1) (hc : c1 a8 = true) (kk : Wp l D Y R n0 X E nx (a0 :: a1 :: a2 :: a3 :: a4 :: a5 :: a6 :: a7 :: a8 :: some (.long x) :: none :: L) st h n) : Wp l D Y R n0 X E pc (a0 :: a1 :: a2 :: a3 :: a4 :: a5 :: a6 :: a7 :: a8 :: a9 :: a10 :: L) (.long x :: st) h n := w_lstore (i := 9) hd hn (by simp) hc kk
theorem w_istore_10 {a0 a1 a2 a3 a4 a5 a6 a7 a8 a9 a10 : Option Value} {x : Int32} (hd : dc Y.2.1 pc (.istore 10) 2 nx) (hn : 10 < Y.2.2.1) (hc : c1 a9 = true) (kk : Wp l D Y R n0 X E nx (a0 :: a1 :: a2 :: a3 :: a4 :: a5 :: a6 :: a7 :: a8 :: a9 :: some (.int x) :: L) st h n) : Wp l D Y R n0 X E pc (a0 :: a1 :: a2 :: a3 :: a4 :: a5 :: a6 :: a7 :: a8 :: a9 :: a10 :: L) (.int x :: st) h n := w_istore (i := 10) hd hn (by simp) hc kk
theorem w_iinc_10 {a0 a1 a2 a3 a4 a5 a6 a7 a8 a9 : Option Value} {z : Int} {x v : Int32} (hd : dc Y.2.1 pc (.iinc 10 z) 3 nx) (hv : Int32.ofInt z = v) (hn : 10 < Y.2.2.1) (hc : c1 a9 = true) (kk : Wp l D Y R n0 X E nx (a0 :: a1 :: a2 :: a3 :: a4 :: a5 :: a6 :: a7 :: a8 :: a9 :: some (.int (x + v)) :: L) st h n) : Wp l D Y R n0 X E pc (a0 :: a1 :: a2 :: a3 :: a4 :: a5 :: a6 :: a7 :: a8 :: a9 :: some (.int x) :: L) st h n := w_iinc (i := 10) hd rfl hv hn hc kk
theorem w_lstore_10 {a0 a1 a2 a3 a4 a5 a6 a7 a8 a9 a10 a11 : Option Value} {x : Int64} (hd : dc Y.2.1 pc (.lstore 10) 2 nx) (hn : 10 + 1 < Y.2.2.1) (hc : c1 a9 = true) (kk : Wp l D Y R n0 X E nx (a0 :: a1 :: a2 :: a3 :: a4 :: a5 :: a6 :: a7 :: a8 :: a9 :: some (.long x) :: none :: L) st h n) : Wp l D Y R n0 X E pc (a0 :: a1 :: a2 :: a3 :: a4 :: a5 :: a6 :: a7 :: a8 :: a9 :: a10 :: a11 :: L) (.long x :: st) h n := w_lstore (i := 10) hd hn (by simp) hc kk
theorem w_istore_11 {a0 a1 a2 a3 a4 a5 a6 a7 a8 a9 a10 a11 : Option Value} {x : Int32} (hd : dc Y.2.1 pc (.istore 11) 2 nx) (hn : 11 < Y.2.2.1) (hc : c1 a10 = true) (kk : Wp l D Y R n0 X E nx (a0 :: a1 :: a2 :: a3 :: a4 :: a5 :: a6 :: a7 :: a8 :: a9 :: a10 :: some (.int x) :: L) st h n) : Wp l D Y R n0 X E pc (a0 :: a1 :: a2 :: a3 :: a4 :: a5 :: a6 :: a7 :: a8 :: a9 :: a10 :: a11 :: L) (.int x :: st) h n := w_istore (i := 11) hd hn (by simp) hc kk
theorem w_iinc_11 {a0 a1 a2 a3 a4 a5 a6 a7 a8 a9 a10 : Option Value} {z : Int} {x v : Int32} (hd : dc Y.2.1 pc (.iinc 11 z) 3 nx) (hv : Int32.ofInt z = v) (hn : 11 < Y.2.2.1) (hc : c1 a10 = true) (kk : Wp l D Y R n0 X E nx (a0 :: a1 :: a2 :: a3 :: a4 :: a5 :: a6 :: a7 :: a8 :: a9 :: a10 :: some (.int (x + v)) :: L) st h n) : Wp l D Y R n0 X E pc (a0 :: a1 :: a2 :: a3 :: a4 :: a5 :: a6 :: a7 :: a8 :: a9 :: a10 :: some (.int x) :: L) st h n := w_iinc (i := 11) hd rfl hv hn hc kk
theorem w_lstore_11 {a0 a1 a2 a3 a4 a5 a6 a7 a8 a9 a10 a11 a12 : Option Value} {x : Int64} (hd : dc Y.2.1 pc (.lstore 11) 2 nx) (hn : 11 + 1 < Y.2.2.1) (hc : c1 a10 = true) (kk : Wp l D Y R n0 X E nx (a0 :: a1 :: a2 :: a3 :: a4 :: a5 :: a6 :: a7 :: a8 :: a9 :: a10 :: some (.long x) :: none :: L) st h n) : Wp l D Y R n0 X E pc (a0 :: a1 :: a2 :: a3 :: a4 :: a5 :: a6 :: a7 :: a8 :: a9 :: a10 :: a11 :: a12 :: L) (.long x :: st) h n := w_lstore (i := 11) hd hn (by simp) hc kk
theorem w_istore_12 {a0 a1 a2 a3 a4 a5 a6 a7 a8 a9 a10 a11 a12 : Option Value} {x : Int32} (hd : dc Y.2.1 pc (.istore 12) 2 nx) (hn : 12 < Y.2.2.1) (hc : c1 a11 = true) (kk : Wp l D Y R n0 X E nx (a0 :: a1 :: a2 :: a3 :: a4 :: a5 :: a6 :: a7 :: a8 :: a9 :: a10 :: a11 :: some (.int x) :: L) st h n) : Wp l D Y R n0 X E pc (a0 :: a1 :: a2 :: a3 :: a4 :: a5 :: a6 :: a7 :: a8 :: a9 :: a10 :: a11 :: a12 :: L) (.int x :: st) h n := w_istore (i := 12) hd hn (by simp) hc kk
theorem w_iinc_12 {a0 a1 a2 a3 a4 a5 a6 a7 a8 a9 a10 a11 : Option Value} {z : Int} {x v : Int32} (hd : dc Y.2.1 pc (.iinc 12 z) 3 nx) (hv : Int32.ofInt z = v) (hn : 12 < Y.2.2.1) (hc : c1 a11 = true) (kk : Wp l D Y R n0 X E nx (a0 :: a1 :: a2 :: a3 :: a4 :: a5 :: a6 :: a7 :: a8 :: a9 :: a10 :: a11 :: some (.int (x + v)) :: L) st h n) : Wp l D Y R n0 X E pc (a0 :: a1 :: a2 :: a3 :: a4 :: a5 :: a6 :: a7 :: a8 :: a9 :: a10 :: a11 :: some (.int x) :: L) st h n := w_iinc (i := 12) hd rfl hv hn hc kk
theorem w_lstore_12 {a0 a1 a2 a3 a4 a5 a6 a7 a8 a9 a10 a11 a12 a13 : Option Value} {x : Int64} (hd : dc Y.2.1 pc (.lstore 12) 2 nx) (hn : 12 + 1 < Y.2.2.1) (hc : c1 a11 = true) (kk : Wp l D Y R n0 X E nx (a0 :: a1 :: a2 :: a3 :: a4 :: a5 :: a6 :: a7 :: a8 :: a9 :: a10 :: a11 :: some (.long x) :: none :: L) st h n) : Wp l D Y R n0 X E pc (a0 :: a1 :: a2 :: a3 :: a4 :: a5 :: a6 :: a7 :: a8 :: a9 :: a10 :: a11 :: a12 :: a13 :: L) (.long x :: st) h n := w_lstore (i := 12) hd hn (by simp) hc kk
theorem w_istore_13 {a0 a1 a2 a3 a4 a5 a6 a7 a8 a9 a10 a11 a12 a13 : Option Value} {x : Int32} (hd : dc Y.2.1 pc (.istore 13) 2 nx) (hn : 13 < Y.2.2.1) (hc : c1 a12 = true) (kk : Wp l D Y R n0 X E nx (a0 :: a1 :: a2 :: a3 :: a4 :: a5 :: a6 :: a7 :: a8 :: a9 :: a10 :: a11 :: a12 :: some (.int x) :: L) st h n) : Wp l D Y R n0 X E pc (a0 :: a1 :: a2 :: a3 :: a4 :: a5 :: a6 :: a7 :: a8 :: a9 :: a10 :: a11 :: a12 :: a13 :: L) (.int x :: st) h n := w_istore (i := 13) hd hn (by simp) hc kk
theorem w_iinc_13 {a0 a1 a2 a3 a4 a5 a6 a7 a8 a9 a10 a11 a12 : Option Value} {z : Int} {x v : Int32} (hd : dc Y.2.1 pc (.iinc 13 z) 3 nx) (hv : Int32.ofInt z = v) (hn : 13 < Y.2.2.1) (hc : c1 a12 = true) (kk : Wp l D Y R n0 X E nx (a0 :: a1 :: a2 :: a3 :: a4 :: a5 :: a6 :: a7 :: a8 :: a9 :: a10 :: a11 :: a12 :: some (.int (x + v)) :: L) st h n) : Wp l D Y R n0 X E pc (a0 :: a1 :: a2 :: a3 :: a4 :: a5 :: a6 :: a7 :: a8 :: a9 :: a10 :: a11 :: a12 :: some (.int x) :: L) st h n := w_iinc (i := 13) hd rfl hv hn hc kk
theorem w_lstore_13 {a0 a1 a2 a3 a4 a5 a6 a7 a8 a9 a10 a11 a12 a13 a14 : Option Value} {x : Int64} (hd : dc Y.2.1 pc (.lstore 13) 2 nx) (hn : 13 + 1 < Y.2.2.1) (hc : c1 a12 = true) (kk : Wp l D Y R n0 X E nx (a0 :: a1 :: a2 :: a3 :: a4 :: a5 :: a6 :: a7 :: a8 :: a9 :: a10 :: a11 :: a12 :: some (.long x) :: none :: L) st h n) : Wp l D Y R n0 X E pc (a0 :: a1 :: a2 :: a3 :: a4 :: a5 :: a6 :: a7 :: a8 :: a9 :: a10 :: a11 :: a12 :: a13 :: a14 :: L) (.long x :: st) h n := w_lstore (i := 13) hd hn (by simp) hc kk
theorem w_if_eq {x : Int32} {off : Int} {tgt : Nat} (hd : dc Y.2.1 pc (.ifCond .eq off) 3 nx) (ht : (pc : Int) + off = (tgt : Int)) (kt : x = 0 → Wp l D Y R n0 X E tgt L st h n) (kf : ¬ x = 0 → Wp l D Y R n0 X E nx L st h n) : Wp l D Y R n0 X E pc L (.int x :: st) h n := by
  intro p e s m args below meth c B H locs ls C hX h1 h2 h3 h4 h5
  obtain ⟨hd, rfl⟩ := hd
  exact lv_if_eq C.1 C.2.1 hd ht (fun z => (kt z p e s m args below meth c B H locs ls C hX h1 h2 h3 h4 h5)) (fun z => (kf z p e s m args below meth c B H locs ls C hX h1 h2 h3 h4 h5))
theorem w_icmp_eq {x y : Int32} {off : Int} {tgt : Nat} (hd : dc Y.2.1 pc (.if_icmp .eq off) 3 nx) (ht : (pc : Int) + off = (tgt : Int)) (kt : x = y → Wp l D Y R n0 X E tgt L st h n) (kf : ¬ x = y → Wp l D Y R n0 X E nx L st h n) : Wp l D Y R n0 X E pc L (.int y :: .int x :: st) h n := by
  intro p e s m args below meth c B H locs ls C hX h1 h2 h3 h4 h5
  obtain ⟨hd, rfl⟩ := hd
  exact lv_icmp_eq C.1 C.2.1 hd ht (fun z => (kt z p e s m args below meth c B H locs ls C hX h1 h2 h3 h4 h5)) (fun z => (kf z p e s m args below meth c B H locs ls C hX h1 h2 h3 h4 h5))
theorem w_if_ne {x : Int32} {off : Int} {tgt : Nat} (hd : dc Y.2.1 pc (.ifCond .ne off) 3 nx) (ht : (pc : Int) + off = (tgt : Int)) (kt : ¬ x = 0 → Wp l D Y R n0 X E tgt L st h n) (kf : x = 0 → Wp l D Y R n0 X E nx L st h n) : Wp l D Y R n0 X E pc L (.int x :: st) h n := by
  intro p e s m args below meth c B H locs ls C hX h1 h2 h3 h4 h5
  obtain ⟨hd, rfl⟩ := hd
  exact lv_if_ne C.1 C.2.1 hd ht (fun z => (kt z p e s m args below meth c B H locs ls C hX h1 h2 h3 h4 h5)) (fun z => (kf z p e s m args below meth c B H locs ls C hX h1 h2 h3 h4 h5))
theorem w_icmp_ne {x y : Int32} {off : Int} {tgt : Nat} (hd : dc Y.2.1 pc (.if_icmp .ne off) 3 nx) (ht : (pc : Int) + off = (tgt : Int)) (kt : ¬ x = y → Wp l D Y R n0 X E tgt L st h n) (kf : x = y → Wp l D Y R n0 X E nx L st h n) : Wp l D Y R n0 X E pc L (.int y :: .int x :: st) h n := by
  intro p e s m args below meth c B H locs ls C hX h1 h2 h3 h4 h5
  obtain ⟨hd, rfl⟩ := hd
  exact lv_icmp_ne C.1 C.2.1 hd ht (fun z => (kt z p e s m args below meth c B H locs ls C hX h1 h2 h3 h4 h5)) (fun z => (kf z p e s m args below meth c B H locs ls C hX h1 h2 h3 h4 h5))
theorem w_if_lt {x : Int32} {off : Int} {tgt : Nat} (hd : dc Y.2.1 pc (.ifCond .lt off) 3 nx) (ht : (pc : Int) + off = (tgt : Int)) (kt : x < 0 → Wp l D Y R n0 X E tgt L st h n) (kf : ¬ x < 0 → Wp l D Y R n0 X E nx L st h n) : Wp l D Y R n0 X E pc L (.int x :: st) h n := by
  intro p e s m args below meth c B H locs ls C hX h1 h2 h3 h4 h5
  obtain ⟨hd, rfl⟩ := hd
  exact lv_if_lt C.1 C.2.1 hd ht (fun z => (kt z p e s m args below meth c B H locs ls C hX h1 h2 h3 h4 h5)) (fun z => (kf z p e s m args below meth c B H locs ls C hX h1 h2 h3 h4 h5))
theorem w_icmp_lt {x y : Int32} {off : Int} {tgt : Nat} (hd : dc Y.2.1 pc (.if_icmp .lt off) 3 nx) (ht : (pc : Int) + off = (tgt : Int)) (kt : x < y → Wp l D Y R n0 X E tgt L st h n) (kf : ¬ x < y → Wp l D Y R n0 X E nx L st h n) : Wp l D Y R n0 X E pc L (.int y :: .int x :: st) h n := by
  intro p e s m args below meth c B H locs ls C hX h1 h2 h3 h4 h5
  obtain ⟨hd, rfl⟩ := hd
  exact lv_icmp_lt C.1 C.2.1 hd ht (fun z => (kt z p e s m args below meth c B H locs ls C hX h1 h2 h3 h4 h5)) (fun z => (kf z p e s m args below meth c B H locs ls C hX h1 h2 h3 h4 h5))
theorem w_if_ge {x : Int32} {off : Int} {tgt : Nat} (hd : dc Y.2.1 pc (.ifCond .ge off) 3 nx) (ht : (pc : Int) + off = (tgt : Int)) (kt : 0 ≤ x → Wp l D Y R n0 X E tgt L st h n) (kf : ¬ 0 ≤ x → Wp l D Y R n0 X E nx L st h n) : Wp l D Y R n0 X E pc L (.int x :: st) h n := by
  intro p e s m args below meth c B H locs ls C hX h1 h2 h3 h4 h5
  obtain ⟨hd, rfl⟩ := hd
  exact lv_if_ge C.1 C.2.1 hd ht (fun z => (kt z p e s m args below meth c B H locs ls C hX h1 h2 h3 h4 h5)) (fun z => (kf z p e s m args below meth c B H locs ls C hX h1 h2 h3 h4 h5))
theorem w_icmp_ge {x y : Int32} {off : Int} {tgt : Nat} (hd : dc Y.2.1 pc (.if_icmp .ge off) 3 nx) (ht : (pc : Int) + off = (tgt : Int)) (kt : y ≤ x → Wp l D Y R n0 X E tgt L st h n) (kf : ¬ y ≤ x → Wp l D Y R n0 X E nx L st h n) : Wp l D Y R n0 X E pc L (.int y :: .int x :: st) h n := by
  intro p e s m args below meth c B H locs ls C hX h1 h2 h3 h4 h5
  obtain ⟨hd, rfl⟩ := hd
  exact lv_icmp_ge C.1 C.2.1 hd ht (fun z => (kt z p e s m args below meth c B H locs ls C hX h1 h2 h3 h4 h5)) (fun z => (kf z p e s m args below meth c B H locs ls C hX h1 h2 h3 h4 h5))
theorem w_if_gt {x : Int32} {off : Int} {tgt : Nat} (hd : dc Y.2.1 pc (.ifCond .gt off) 3 nx) (ht : (pc : Int) + off = (tgt : Int)) (kt : 0 < x → Wp l D Y R n0 X E tgt L st h n) (kf : ¬ 0 < x → Wp l D Y R n0 X E nx L st h n) : Wp l D Y R n0 X E pc L (.int x :: st) h n := by
  intro p e s m args below meth c B H locs ls C hX h1 h2 h3 h4 h5
  obtain ⟨hd, rfl⟩ := hd
  exact lv_if_gt C.1 C.2.1 hd ht (fun z => (kt z p e s m args below meth c B H locs ls C hX h1 h2 h3 h4 h5)) (fun z => (kf z p e s m args below meth c B H locs ls C hX h1 h2 h3 h4 h5))
theorem w_icmp_gt {x y : Int32} {off : Int} {tgt : Nat} (hd : dc Y.2.1 pc (.if_icmp .gt off) 3 nx) (ht : (pc : Int) + off = (tgt : Int)) (kt : y < x → Wp l D Y R n0 X E tgt L st h n) (kf : ¬ y < x → Wp l D Y R n0 X E nx L st h n) : Wp l D Y R n0 X E pc L (.int y :: .int x :: st) h n := by
  intro p e s m args below meth c B H locs ls C hX h1 h2 h3 h4 h5
  obtain ⟨hd, rfl⟩ := hd
  exact lv_icmp_gt C.1 C.2.1 hd ht (fun z => (kt z p e s m args below meth c B H locs ls C hX h1 h2 h3 h4 h5)) (fun z => (kf z p e s m args below meth c B H locs ls C hX h1 h2 h3 h4 h5))
theorem w_if_le {x : Int32} {off : Int} {tgt : Nat} (hd : dc Y.2.1 pc (.ifCond .le off) 3 nx) (ht : (pc : Int) + off = (tgt : Int)) (kt : x ≤ 0 → Wp l D Y R n0 X E tgt L st h n) (kf : ¬ x ≤ 0 → Wp l D Y R n0 X E nx L st h n) : Wp l D Y R n0 X E pc L (.int x :: st) h n := by
  intro p e s m args below meth c B H locs ls C hX h1 h2 h3 h4 h5
  obtain ⟨hd, rfl⟩ := hd
  exact lv_if_le C.1 C.2.1 hd ht (fun z => (kt z p e s m args below meth c B H locs ls C hX h1 h2 h3 h4 h5)) (fun z => (kf z p e s m args below meth c B H locs ls C hX h1 h2 h3 h4 h5))
theorem w_icmp_le {x y : Int32} {off : Int} {tgt : Nat} (hd : dc Y.2.1 pc (.if_icmp .le off) 3 nx) (ht : (pc : Int) + off = (tgt : Int)) (kt : x ≤ y → Wp l D Y R n0 X E tgt L st h n) (kf : ¬ x ≤ y → Wp l D Y R n0 X E nx L st h n) : Wp l D Y R n0 X E pc L (.int y :: .int x :: st) h n := by
  intro p e s m args below meth c B H locs ls C hX h1 h2 h3 h4 h5
  obtain ⟨hd, rfl⟩ := hd
  exact lv_icmp_le C.1 C.2.1 hd ht (fun z => (kt z p e s m args below meth c B H locs ls C hX h1 h2 h3 h4 h5)) (fun z => (kf z p e s m args below meth c B H locs ls C hX h1 h2 h3 h4 h5))
theorem w_goto {off : Int} {tgt : Nat} (hd : dc Y.2.1 pc (.goto off) 3 nx) (ht : (pc : Int) + off = (tgt : Int)) (k : Wp l D Y R n0 X E tgt L st h n) : Wp l D Y R n0 X E pc L st h n := by
  intro p e s m args below meth c B H locs ls C hX h1 h2 h3 h4 h5
  obtain ⟨hd, rfl⟩ := hd
  exact lv_goto C.1 C.2.1 hd ht (k p e s m args below meth c B H locs ls C hX h1 h2 h3 h4 h5)
theorem w_ifnonnull {x : Nat} {off : Int} {tgt : Nat} (hd : dc Y.2.1 pc (.ifnonnull off) 3 nx) (ht : (pc : Int) + off = (tgt : Int)) (k : Wp l D Y R n0 X E tgt L st h n) : Wp l D Y R n0 X E pc L (.ref x :: st) h n := by
  intro p e s m args below meth c B H locs ls C hX h1 h2 h3 h4 h5
  obtain ⟨hd, rfl⟩ := hd
  exact lv_ifnonnull C.1 C.2.1 hd ht (k p e s m args below meth c B H locs ls C hX h1 h2 h3 h4 h5)
theorem w_ifnonnullN {off : Int} (hd : dc Y.2.1 pc (.ifnonnull off) 3 nx) (k : Wp l D Y R n0 X E nx L st h n) : Wp l D Y R n0 X E pc L (.null :: st) h n := by
  intro p e s m args below meth c B H locs ls C hX h1 h2 h3 h4 h5
  obtain ⟨hd, rfl⟩ := hd
  exact lv_ifnonnullN C.1 C.2.1 hd (k p e s m args below meth c B H locs ls C hX h1 h2 h3 h4 h5)
theorem w_tableIn {dflt lo hi : Int} {offs : Array Int} {len : Nat} {x : Int32} {off : Int} {tgt : Nat} (hd : dc Y.2.1 pc (.tableswitch dflt lo hi offs) len nx) (g1 : ¬ x.toInt < lo) (g2 : ¬ hi < x.toInt) (ho : offs[(x.toInt - lo).toNat]? = some off) (ht : (pc : Int) + off = (tgt : Int)) (k : Wp l D Y R n0 X E tgt L st h n) : Wp l D Y R n0 X E pc L (.int x :: st) h n := by
  intro p e s m args below meth c B H locs ls C hX h1 h2 h3 h4 h5
  obtain ⟨hd, rfl⟩ := hd
  exact lv_tableIn C.1 C.2.1 hd g1 g2 ho ht (k p e s m args below meth c B H locs ls C hX h1 h2 h3 h4 h5)
theorem w_tableOut {dflt lo hi : Int} {offs : Array Int} {len : Nat} {x : Int32} {tgt : Nat} (hd : dc Y.2.1 pc (.tableswitch dflt lo hi offs) len nx) (g : x.toInt < lo ∨ hi < x.toInt) (ht : (pc : Int) + dflt = (tgt : Int)) (k : Wp l D Y R n0 X E tgt L st h n) : Wp l D Y R n0 X E pc L (.int x :: st) h n := by
  intro p e s m args below meth c B H locs ls C hX h1 h2 h3 h4 h5
  obtain ⟨hd, rfl⟩ := hd
  exact lv_tableOut C.1 C.2.1 hd g ht (k p e s m args below meth c B H locs ls C hX h1 h2 h3 h4 h5)
theorem w_lookup {dflt : Int} {ps : Array (Int × Int)} {len : Nat} {x : Int32} {off : Int} {tgt : Nat} (hd : dc Y.2.1 pc (.lookupswitch dflt ps) len nx) (hp : (ps.toList.zip (ps.toList.drop 1)).all (fun (a, next) => a.1 < next.1) = true) (ho : Op.lookupswitch.offset ps.toList dflt x.toInt = off) (ht : (pc : Int) + off = (tgt : Int)) (k : Wp l D Y R n0 X E tgt L st h n) : Wp l D Y R n0 X E pc L (.int x :: st) h n := by
  intro p e s m args below meth c B H locs ls C hX h1 h2 h3 h4 h5
  obtain ⟨hd, rfl⟩ := hd
  exact lv_lookup C.1 C.2.1 hd hp ho ht (k p e s m args below meth c B H locs ls C hX h1 h2 h3 h4 h5)
end PW
