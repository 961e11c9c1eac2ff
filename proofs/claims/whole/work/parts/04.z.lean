/-! THE PURE LAYER. The 44 cells of both objects have one fixed shape: cell i is an array (.inl (kind of element, length)) or an object (.inr (its class, its fields' codes: 0 int, 1 long, k + 2 the cell k)).
Cells 0..29: GrangeParty and all that hangs on it; 30..43: the reference. A heap is what the ints and longs in them are. Z: the machine, at pc, with these locals, this stack, this heap, comes to an end that K likes. -/
abbrev hp : Type := (Nat → Nat → Int32) × (Nat → Nat → Int64)
abbrev z_C : Type := (Nat × Nat) ⊕ (Nat × List Nat)
def z_sh : List z_C := [
  .inr (7, [3, 5, 9, 13, 17, 21, 25, 27, 29, 31, 0, 0]), .inr (3, [4, 0]), .inl (0, 36),
  .inr (5, [6, 7, 8, 0, 0, 0, 0]), .inl (0, 8), .inl (0, 8), .inl (0, 8),
  .inr (6, [10, 11, 12, 0]), .inl (0, 6), .inl (0, 6), .inl (2, 6),
  .inr (5, [14, 15, 16, 0, 0, 0, 0]), .inl (0, 8), .inl (0, 8), .inl (0, 8),
  .inr (6, [18, 19, 20, 0]), .inl (0, 6), .inl (0, 6), .inl (2, 6),
  .inr (5, [22, 23, 24, 0, 0, 0, 0]), .inl (0, 8), .inl (0, 8), .inl (0, 8),
  .inr (4, [26, 0]), .inl (0, 256),
  .inr (0, [28, 0, 0]), .inl (0, 8),
  .inr (2, [30]), .inl (0, 8),
  .inr (1, [0]),
  .inr (8, [0, 0, 0, 0, 0, 33, 34, 35, 0, 36, 37, 38, 0, 39, 0, 0, 40, 0, 0, 1, 0, 0, 0, 0, 0, 0, 41, 42, 43, 44, 45, 1]),
  .inl (0, 8), .inl (0, 8), .inl (0, 8), .inl (0, 6), .inl (0, 6), .inl (0, 6), .inl (1, 36), .inl (0, 8),
  .inl (0, 8), .inl (0, 8), .inl (0, 6), .inl (0, 6), .inl (0, 6)]
def z_v (ad : Nat → Nat) (v : Value) : Value := match v with
  | .ref i => .ref (ad i)
  | w => w
theorem z_v_cat (ad : Nat → Nat) (v : Value) : (z_v ad v).category = v.category := by cases v <;> rfl
def z_f (ad : Nat → Nat) (h : hp) (i j : Nat) (t : Nat) : Value := match t with
  | 0 => .int (h.1 i j)
  | 1 => .long (h.2 i j)
  | k + 2 => .ref (ad k)
def z_e (ad : Nat → Nat) (cA : Nat → ClassId) (h : hp) (i : Nat) (c : z_C) : va_E := match c with
  | .inl q => .inl (cA q.1, q.2, .inl (h.1 i))
  | .inr q => .inr (q.1, q.2.mapIdx (fun j t => z_f ad h i j t))
def z_w (ad : Nat → Nat) (cA : Nat → ClassId) (h : hp) : va_W := z_sh.mapIdx (fun i c => (ad i, z_e ad cA h i c))
def z_t (cA : Nat → ClassId) : List (ClassId × FieldType) := [(cA 0, .int), (cA 1, .byte), (cA 2, .boolean)]
def z_up (h : hp) (i j : Nat) (v : Int32) : hp := (va_up h.1 i (upd (h.1 i) j v), h.2)
def z_upL (h : hp) (i j : Nat) (v : Int64) : hp := (h.1, va_up h.2 i (vp_updL (h.2 i) j v))
def z_row (h : hp) (i : Nat) (f : Nat → Int32) : hp := (va_up h.1 i f, h.2)
theorem z_w_at {ad : Nat → Nat} {cA : Nat → ClassId} {h : hp} {i : Nat} {c : z_C} (hs : z_sh[i]? = some c) : (z_w ad cA h)[i]? = some (ad i, z_e ad cA h i c) := by
  unfold z_w
  rw [List.getElem?_mapIdx, hs]
  rfl
theorem z_w_set {ad : Nat → Nat} {cA : Nat → ClassId} {h h' : hp} {i : Nat} {c : z_C} {x : va_E} (hs : z_sh[i]? = some c) (hx : x = z_e ad cA h' i c) (ho : ∀ (j : Nat) (c' : z_C), j ≠ i → z_e ad cA h' j c' = z_e ad cA h j c') : (z_w ad cA h).set i (ad i, x) = z_w ad cA h' := by
  subst hx
  apply List.ext_getElem?
  intro j
  have hl : i < (z_w ad cA h).length := by
    have := (List.getElem?_eq_some_iff.mp hs).1
    simpa [z_w] using this
  by_cases hj : j = i
  · subst hj
    rw [List.getElem?_set_self hl, z_w_at hs]
  · rw [List.getElem?_set_ne (Ne.symm hj)]
    unfold z_w
    rw [List.getElem?_mapIdx, List.getElem?_mapIdx]
    cases hz : z_sh[j]? with
    | none => rfl
    | some c' => simp only [Option.map_some]; rw [ho j c' hj]
theorem z_e_row {ad : Nat → Nat} {cA : Nat → ClassId} {h : hp} {i j : Nat} {f : Nat → Int32} {c' : z_C} (hj : j ≠ i) : z_e ad cA (z_row h i f) j c' = z_e ad cA h j c' := by
  have e : va_up h.1 i f j = h.1 j := by simp [va_up, hj]
  cases c' with
  | inl q => simp only [z_e, z_row, e]
  | inr q =>
    simp only [z_e]
    congr 2
    apply List.ext_getElem?
    intro n
    rw [List.getElem?_mapIdx, List.getElem?_mapIdx]
    congr 1
    funext t
    match t with
    | 0 => simp only [z_f, z_row, e]
    | 1 => rfl
    | k + 2 => rfl
theorem z_e_upL {ad : Nat → Nat} {cA : Nat → ClassId} {h : hp} {i j k : Nat} {v : Int64} {c' : z_C} (hj : j ≠ i) : z_e ad cA (z_upL h i k v) j c' = z_e ad cA h j c' := by
  have e : va_up h.2 i (vp_updL (h.2 i) k v) j = h.2 j := by simp [va_up, hj]
  cases c' with
  | inl q => rfl
  | inr q =>
    simp only [z_e]
    congr 2
    apply List.ext_getElem?
    intro n
    rw [List.getElem?_mapIdx, List.getElem?_mapIdx]
    congr 1
    funext t
    match t with
    | 0 => rfl
    | 1 => simp only [z_f, z_upL, e]
    | k + 2 => rfl
def z_l (ad : Nat → Nat) (lv : List (Nat × Value)) : List (Nat × Value) := lv.map (fun q => (q.1, z_v ad q.2))
theorem z_args (ad : Nat → Nat) : ∀ (as : List Value) (i : Nat), lv_args i (as.map (z_v ad)) = z_l ad (lv_args i as)
  | [], _ => rfl
  | a :: as, i => by
    simp only [List.map_cons, lv_args, z_v_cat, z_l]
    rw [z_args ad as]
    rfl
theorem z_slen (ad : Nat → Nat) : ∀ as : List Value, (lg_sl (as.map (z_v ad))).length = (lg_sl as).length
  | [] => rfl
  | a :: as => by
    have ih := z_slen ad as
    unfold lg_sl at ih ⊢
    simp only [List.map_cons, List.flatMap_cons, List.length_append, z_v_cat, ih]
    split <;> rfl
def z_get : List (Nat × Value) → Nat → Option Value
  | [], _ => none
  | q :: t, i => cond (Nat.beq q.1 i) (some q.2) (z_get t i)
def z_set : List (Nat × Value) → Nat → Value → List (Nat × Value)
  | [], i, v => [(i, v)]
  | q :: t, i, v => cond (Nat.beq q.1 i) ((i, v) :: t.filter (fun r => !(Nat.beq r.1 i))) (q :: z_set t i v)
/-- storing at i spoils no long that begins at i - 1 (and, of a long, nothing at i + 1) -/
def z_ok (lv : List (Nat × Value)) (i : Nat) (v : Value) : Bool := lv.all (fun q => !(Nat.beq (q.1 + 1) i && Nat.beq q.2.category 2) && !(Nat.beq q.1 (i + 1) && Nat.beq v.category 2))
theorem z_get_mem : ∀ {lv : List (Nat × Value)} {i : Nat} {v : Value}, z_get lv i = some v → (i, v) ∈ lv
  | [], _, _, h => by cases h
  | q :: t, i, v, h => by
    unfold z_get at h
    by_cases e : q.1 = i
    · have e2 : Nat.beq q.1 i = true := Nat.beq_eq.mpr e
      rw [e2] at h
      simp only [cond_true, Option.some.injEq] at h
      rw [← e, ← h]
      exact List.mem_cons_self
    · have e2 : Nat.beq q.1 i = false := by
        cases hb : Nat.beq q.1 i with
        | true => exact absurd (Nat.beq_eq.mp hb) e
        | false => rfl
      rw [e2] at h
      exact List.mem_cons_of_mem _ (z_get_mem h)
theorem z_set_mem : ∀ {lv : List (Nat × Value)} {i : Nat} {v : Value} {q : Nat × Value}, q ∈ z_set lv i v → q = (i, v) ∨ (q ∈ lv ∧ q.1 ≠ i)
  | [], i, v, q, h => by
    simp only [z_set, List.mem_singleton] at h
    exact Or.inl h
  | r :: t, i, v, q, h => by
    unfold z_set at h
    by_cases e : r.1 = i
    · rw [Nat.beq_eq.mpr e] at h
      simp only [cond_true, List.mem_cons, List.mem_filter] at h
      rcases h with h | ⟨h1, h2⟩
      · exact Or.inl h
      · refine Or.inr ⟨List.mem_cons_of_mem _ h1, fun z => ?_⟩
        rw [Nat.beq_eq.mpr z] at h2
        cases h2
    · have e2 : Nat.beq r.1 i = false := by
        cases hb : Nat.beq r.1 i with
        | true => exact absurd (Nat.beq_eq.mp hb) e
        | false => rfl
      rw [e2] at h
      simp only [cond_false, List.mem_cons] at h
      rcases h with h | h
      · subst h
        exact Or.inr ⟨List.mem_cons_self, e⟩
      · rcases z_set_mem h with h | ⟨h1, h2⟩
        · exact Or.inl h
        · exact Or.inr ⟨List.mem_cons_of_mem _ h1, h2⟩
theorem z_at {ad : Nat → Nat} {ls : Array Slot} {nL i : Nat} {lv : List (Nat × Value)} {v : Value} (hl : lv_has ls nL (z_l ad lv)) (h : z_get lv i = some v) : ls[i]? = some (.val (z_v ad v)) :=
  hl.2.2 (i, z_v ad v) (List.mem_map.mpr ⟨(i, v), z_get_mem h, rfl⟩)
theorem z_ok_mem {lv : List (Nat × Value)} {i : Nat} {v : Value} (ho : z_ok lv i v = true) {q : Nat × Value} (hq : q ∈ lv) : ¬ (q.1 + 1 = i ∧ q.2.category = 2) ∧ ¬ (q.1 = i + 1 ∧ v.category = 2) := by
  have h := List.all_eq_true.mp ho q hq
  simp only [Bool.and_eq_true, Bool.not_eq_true', Bool.and_eq_false_iff] at h
  refine ⟨fun z => ?_, fun z => ?_⟩
  · rcases h.1 with h1 | h1
    · rw [Nat.beq_eq.mpr z.1] at h1; cases h1
    · rw [Nat.beq_eq.mpr z.2] at h1; cases h1
  · rcases h.2 with h1 | h1
    · rw [Nat.beq_eq.mpr z.1] at h1; cases h1
    · rw [Nat.beq_eq.mpr z.2] at h1; cases h1
theorem z_st1 {ad : Nat → Nat} {ls : Array Slot} {nL i : Nat} {lv : List (Nat × Value)} {v : Value} (ho : z_ok lv i v = true) (h : lv_has ls nL ((i, z_v ad v) :: (z_l ad lv).filter (fun q => !(q.1 == i) && !(q.1 + 1 == i && q.2.category == 2)))) : lv_has ls nL (z_l ad (z_set lv i v)) := by
  refine ⟨h.1, h.2.1, fun q hq => h.2.2 q ?_⟩
  obtain ⟨r, hr, rfl⟩ := List.mem_map.mp hq
  rcases z_set_mem hr with h1 | ⟨h1, h2⟩
  · subst h1
    exact List.mem_cons_self
  · refine List.mem_cons_of_mem _ (List.mem_filter.mpr ⟨List.mem_map.mpr ⟨r, h1, rfl⟩, ?_⟩)
    have h3 := (z_ok_mem ho h1).1
    simp only [z_v_cat]
    simp only [Bool.and_eq_true, Bool.not_eq_true', beq_eq_false_iff_ne, Bool.and_eq_false_iff, ne_eq]
    refine ⟨h2, ?_⟩
    by_cases z : r.1 + 1 = i
    · exact Or.inr (fun w => h3 ⟨z, w⟩)
    · exact Or.inl z
theorem z_st2 {ad : Nat → Nat} {ls : Array Slot} {nL i : Nat} {lv : List (Nat × Value)} {x : Int64} (ho : z_ok lv i (.long x) = true) (h : lv_has ls nL ((i, .long x) :: (z_l ad lv).filter (fun q => !(q.1 == i) && (!(q.1 == i + 1) && !(q.1 + 1 == i && q.2.category == 2))))) : lv_has ls nL (z_l ad (z_set lv i (.long x))) := by
  refine ⟨h.1, h.2.1, fun q hq => h.2.2 q ?_⟩
  obtain ⟨r, hr, rfl⟩ := List.mem_map.mp hq
  rcases z_set_mem hr with h1 | ⟨h1, h2⟩
  · subst h1
    exact List.mem_cons_self
  · refine List.mem_cons_of_mem _ (List.mem_filter.mpr ⟨List.mem_map.mpr ⟨r, h1, rfl⟩, ?_⟩)
    have h3 := z_ok_mem ho h1
    simp only [z_v_cat]
    simp only [Bool.and_eq_true, Bool.not_eq_true', beq_eq_false_iff_ne, Bool.and_eq_false_iff, ne_eq]
    refine ⟨h2, fun z => h3.2 ⟨z, rfl⟩, ?_⟩
    by_cases z : r.1 + 1 = i
    · exact Or.inr (fun w => h3.1 ⟨z, w⟩)
    · exact Or.inl z
/-- what no walk changes, outside the cells: nest links, the text "gchpk" (cells 100, 101), two statics of the JDK -/
def z_X (ad : Nat → Nat) (A : Nat → Prop) (s : State) (H : Heap) : Prop :=
  va_Nw (.methodLinkNest RX6 63 yX8_isAmong RX8) s ∧ va_Nw (.methodLinkNest RX2 29 yX8_isAmong RX8) s ∧ va_Nw (.methodLinkNest RX0 41 yX8_isAmong RX8) s ∧ vk_R RX3 11 "gchpk" (ad 100) s ∧
  vk_S 1 [5] [[103, 99, 104, 112, 107]] (fun _ => ad 100) (fun _ => ad 101) A s H ∧ va_Z "java/lang/String" "COMPACT_STRINGS" "Z" (.int 1) A s H ∧
  ∃ vs : Value, (vs = .null ∨ vs = .ref 102) ∧ va_Z "jdk/internal/util/Preconditions" "SIOOBE_FORMATTER" "Ljava/util/function/BiFunction;" (z_v ad vs) A s H
theorem z_X.go {ad : Nat → Nat} {A B : Nat → Prop} {s U : State} {H H1 : Heap} (h : z_X ad A s H) (hW : s.WarmedH U.vm) (hq : ∀ q : Nat, q < H.size → ¬ A q → H1[q]? = H[q]?) (hAB : ∀ q, B q → A q) : z_X ad B U H1 := by
  obtain ⟨h1, h2, h3, h4, h5, h6, vs, h7, h8⟩ := h
  exact ⟨h1.warmM hW, h2.warmM hW, h3.warmM hW, h4.warm hW, ((h5.kept hq).narrow hAB).moved hW.alike, ((h6.kept hq).narrow hAB).moved hW.alike, vs, h7, ((h8.kept hq).narrow hAB).moved hW.alike⟩
theorem z_X.same {ad : Nat → Nat} {A : Nat → Prop} {u U : State} {H : Heap} (h : z_X ad A u H) (hv : u.vm = U.vm) : z_X ad A U H := by
  obtain ⟨h1, h2, h3, h4, h5, h6, vs, h7, h8⟩ := h
  have ha : u.vm.Alike U.vm := hv ▸ Vm.Alike.refl u.vm
  exact ⟨h1.same rfl hv, h2.same rfl hv, h3.same rfl hv, h4.same hv.symm, h5.moved ha, h6.moved ha, vs, h7, h8.moved ha⟩
def z_rm (d : Nat) : Room := { frames := d, cells := 0, slots := 0, locals := 38 * d }
def z_Q (D : va_G) (ad : Nat → Nat) (cA : Nat → ClassId) (A : Nat → Prop) (K : Option Value → hp → Prop) : Array Value → State → Outcome → State → Prop := fun _ st oc t =>
  (∃ (r : Option Value) (h : hp), oc = .returned (r.map (z_v ad)) ∧ K r h ∧ va_P D vwCl (z_w ad cA h) t.heap ∧ va_D A (z_w ad cA h)) ∧ va_F A st t
def z_cx (y : MethodName) (cc : ByteArray) (nL : Nat) (ret : Option FieldType) (p : Program) (s : State) (m : MethodId) (args : Array Value) (meth : Method) (c : Code) (D : va_G) (ad : Nat → Nat) (cA : Nat → ClassId) (A : Nat → Prop) : Prop :=
  p.tables.exec = Jvm.exec ∧ c.code = cc ∧ c.maxLocals = nL ∧ meth.sig.returnType = ret ∧ meth.locks = false ∧ s.vm.findClass y.cls = some m.cls ∧ (∀ w ∈ z_tb, w.before args s = true) ∧ (∀ q, s.heap.size ≤ q → A q) ∧ va_K D vwCl (z_t cA) s ∧ z_X ad A s s.heap
def Z (y : MethodName) (cc : ByteArray) (nL : Nat) (ret : Option FieldType) (d : Nat) (K : Option Value → hp → Prop) (pc : Nat) (lv : List (Nat × Value)) (st : List Value) (h : hp) : Prop :=
  ∀ (p : Program) (l : Launch) (e : Env) (s : State) (m : MethodId) (args : Array Value) (below : List Frame) (meth : Method) (c : Code) (D : va_G) (ad : Nat → Nat) (cA : Nat → ClassId) (A : Nat → Prop) (H : Heap) (locs : List Loc) (ls : Array Slot),
    z_cx y cc nL ret p s m args meth c D ad cA A → va_P D vwCl (z_w ad cA h) H → va_D A (z_w ad cA h) → va_S A s.heap H locs → lv_has ls nL (z_l ad lv) →
    W p l e (z_rm d) s m args below meth c H locs 0 0 (MQ below (z_Q D ad cA A K) args s 0 0 A) (F0 m pc ls (st.map (z_v ad)))
/-- a contract: called with these arguments in this heap, y comes back with what K likes -/
def Cn (y : MethodName) (cc : ByteArray) (nL : Nat) (ret : Option FieldType) (d : Nat) (as : List Value) (h : hp) (K : Option Value → hp → Prop) : Prop :=
  ∀ (l : Launch) (D : va_G) (ad : Nat → Nat) (cA : Nat → ClassId) (sz : Nat),
    Met l y (.code y cc nL ret :: z_tb) (z_rm d) (va_Pc (as.map (z_v ad)) (fun U => U.heap.size = sz ∧ va_P D vwCl (z_w ad cA h) U.heap ∧ va_K D vwCl (z_t cA) U ∧ va_D (fun _ => True) (z_w ad cA h) ∧ z_X ad (va_A (z_w ad cA h) sz) U U.heap))
      (z_Q D ad cA (va_A (z_w ad cA h) sz) K) 0 0 (va_A (z_w ad cA h) sz)
theorem Cn.of {y : MethodName} {cc : ByteArray} {nL : Nat} {ret : Option FieldType} {d : Nat} {as : List Value} {h : hp} {K : Option Value → hp → Prop} (hy : plainName y.cls = true) (hn : (lg_sl as).length ≤ nL) (hz : Z y cc nL ret d K 0 (lv_args 0 as) [] h) : Cn y cc nL ret d as h K := by
  intro l D ad cA sz
  refine Met.ofW (cc := cc) (maxL := nL) (ret := ret) hy rfl ?_
  intro p e s m args below meth c s₁ B hml hv
  obtain ⟨rfl, hsz, hP, hK, hD0, hX⟩ := hv
  have hts0 := atoms_spec (ws := .code y cc nL ret :: z_tb) B.pre
  have hts : ∀ w ∈ z_tb, w.before _ s = true := fun w hw => hts0 w (List.mem_cons_of_mem _ hw)
  have hown : s.vm.findClass y.cls = some m.cls := findClass_of_methodNamed B.named
  subst hsz
  have hD := hD0.self (sz := s.heap.size)
  have hl := lv_entry (as.map (z_v ad)) (n := nL) (by rw [z_slen]; exact hn)
  rw [z_args] at hl
  rw [lg_entry_eq]
  exact hz p l e s m _ below meth c D ad cA _ s.heap [] _ ⟨B.exec, B.bytes, hml, B.returns, B.notSynchronized, hown, hts, fun q hq => Or.inr hq, hK, hX⟩ hP hD va_S.rf hl
theorem Cn.mono {y : MethodName} {cc : ByteArray} {nL : Nat} {ret : Option FieldType} {d : Nat} {as : List Value} {h : hp} {K K' : Option Value → hp → Prop} (hc : Cn y cc nL ret d as h K) (hk : ∀ r h', K r h' → K' r h') : Cn y cc nL ret d as h K' := by
  intro l D ad cA sz
  have hm := hc l D ad cA sz
  intro p e ha hcc hk' s m args below hf happ hP hT
  obtain ⟨k, o, h1, h2, h3, hQ, hL⟩ := hm p e ha hcc hk' s m args below hf happ hP hT
  obtain ⟨⟨r, h', g1, g2, g3, g4⟩, g5⟩ := hQ
  exact ⟨k, o, h1, h2, h3, ⟨⟨r, h', g1, hk r h' g2, g3, g4⟩, g5⟩, hL⟩
section ZR
variable {y : MethodName} {cc : ByteArray} {nL : Nat} {ret : Option FieldType} {d : Nat} {K : Option Value → hp → Prop} {pc : Nat} {lv : List (Nat × Value)} {st : List Value} {h : hp}
theorem Z.eqS {st' : List Value} (e : st = st') (k : Z y cc nL ret d K pc lv st' h) : Z y cc nL ret d K pc lv st h := e ▸ k
theorem Z.eqH {h' : hp} (e : h = h') (k : Z y cc nL ret d K pc lv st h') : Z y cc nL ret d K pc lv st h := e ▸ k
theorem Z.eqL {lv' : List (Nat × Value)} (e : lv = lv') (k : Z y cc nL ret d K pc lv' st h) : Z y cc nL ret d K pc lv st h := e ▸ k
theorem Z.top {x x' : Int32} (e : x = x') (k : Z y cc nL ret d K pc lv (.int x' :: st) h) : Z y cc nL ret d K pc lv (.int x :: st) h := e ▸ k
theorem Z.topl {x x' : Int64} (e : x = x') (k : Z y cc nL ret d K pc lv (.long x' :: st) h) : Z y cc nL ret d K pc lv (.long x :: st) h := e ▸ k
theorem Z.less {lv' : List (Nat × Value)} (e : ∀ q ∈ lv', z_get lv q.1 = some q.2) (k : Z y cc nL ret d K pc lv' st h) : Z y cc nL ret d K pc lv st h := by
  intro p l e' s m args below meth c D ad cA A H locs ls cx hP hD hS hl
  refine k p l e' s m args below meth c D ad cA A H locs ls cx hP hD hS ⟨hl.1, hl.2.1, fun q hq => ?_⟩
  obtain ⟨r, hr, rfl⟩ := List.mem_map.mp hq
  exact z_at hl (e r hr)

def z_del : List (Nat × Value) → Nat → List (Nat × Value)
  | [], _ => []
  | q :: t, i => cond (Nat.beq q.1 i) (z_del t i) (q :: z_del t i)
theorem z_del_mem : ∀ {lv : List (Nat × Value)} {i : Nat} {q : Nat × Value}, q ∈ z_del lv i → q ∈ lv
  | [], _, _, h => h
  | r :: t, i, q, h => by
    unfold z_del at h
    cases hb : Nat.beq r.1 i with
    | true => rw [hb] at h; exact List.mem_cons_of_mem _ (z_del_mem h)
    | false =>
      rw [hb] at h
      rcases List.mem_cons.mp h with h | h
      · exact h ▸ List.mem_cons_self
      · exact List.mem_cons_of_mem _ (z_del_mem h)
theorem Z.drop (i : Nat) (k : Z y cc nL ret d K pc (z_del lv i) st h) : Z y cc nL ret d K pc lv st h := by
  intro p l e s m args below meth c D ad cA A H locs ls cx hP hD hS hl
  refine k p l e s m args below meth c D ad cA A H locs ls cx hP hD hS ⟨hl.1, hl.2.1, fun q hq => hl.2.2 q ?_⟩
  obtain ⟨r, hr, rfl⟩ := List.mem_map.mp hq
  exact List.mem_map.mpr ⟨r, z_del_mem hr, rfl⟩
theorem Z.iconst {n : Int} {v : Int32} (hd : decode cc pc = .ok (.iconst n, 1)) (hv : Int32.ofInt n = v) (k : Z y cc nL ret d K (pc + 1) lv (.int v :: st) h) : Z y cc nL ret d K pc lv st h := by
  intro p l e s m args below meth c D ad cA A H locs ls cx hP hD hS hl
  exact lv_iconst cx.1 cx.2.1 hd hv (k p l e s m args below meth c D ad cA A H locs ls cx hP hD hS hl)
theorem Z.bipush {n : Int} {v : Int32} (hd : decode cc pc = .ok (.bipush n, 2)) (hv : (Int8.ofInt n).toInt32 = v) (k : Z y cc nL ret d K (pc + 2) lv (.int v :: st) h) : Z y cc nL ret d K pc lv st h := by
  intro p l e s m args below meth c D ad cA A H locs ls cx hP hD hS hl
  exact lv_bipush cx.1 cx.2.1 hd hv (k p l e s m args below meth c D ad cA A H locs ls cx hP hD hS hl)
theorem Z.sipush {n : Int} {v : Int32} (hd : decode cc pc = .ok (.sipush n, 3)) (hv : (Int16.ofInt n).toInt32 = v) (k : Z y cc nL ret d K (pc + 3) lv (.int v :: st) h) : Z y cc nL ret d K pc lv st h := by
  intro p l e s m args below meth c D ad cA A H locs ls cx hP hD hS hl
  exact lv_sipush cx.1 cx.2.1 hd hv (k p l e s m args below meth c D ad cA A H locs ls cx hP hD hS hl)
theorem Z.lconst {n : Fin 2} {v : Int64} (hd : decode cc pc = .ok (.lconst n, 1)) (hv : Int64.ofNat (n : Nat) = v) (k : Z y cc nL ret d K (pc + 1) lv (.long v :: st) h) : Z y cc nL ret d K pc lv st h := by
  intro p l e s m args below meth c D ad cA A H locs ls cx hP hD hS hl
  exact lv_lconst cx.1 cx.2.1 hd hv (k p l e s m args below meth c D ad cA A H locs ls cx hP hD hS hl)
theorem Z.ldc {i : Nat} {v : Int32} (hd : decode cc pc = .ok (.ldc i, 2)) (hw : Cond.constant y.cls i v ∈ z_tb) (k : Z y cc nL ret d K (pc + 2) lv (.int v :: st) h) : Z y cc nL ret d K pc lv st h := by
  intro p l e s m args below meth c D ad cA A H locs ls cx hP hD hS hl
  exact lv_ldc cx.1 cx.2.1 cx.2.2.2.2.2.1 (cx.2.2.2.2.2.2.1 _ hw) hd (k p l e s m args below meth c D ad cA A H locs ls cx hP hD hS hl)
theorem Z.ldcw {i : Nat} {v : Int32} (hd : decode cc pc = .ok (.ldc_w i, 3)) (hw : Cond.constant y.cls i v ∈ z_tb) (k : Z y cc nL ret d K (pc + 3) lv (.int v :: st) h) : Z y cc nL ret d K pc lv st h := by
  intro p l e s m args below meth c D ad cA A H locs ls cx hP hD hS hl
  exact lv_ldcw cx.1 cx.2.1 cx.2.2.2.2.2.1 (cx.2.2.2.2.2.2.1 _ hw) hd (k p l e s m args below meth c D ad cA A H locs ls cx hP hD hS hl)
theorem Z.ldc2 {i : Nat} {v : Int64} (hd : decode cc pc = .ok (.ldc2_w i, 3)) (hw : Cond.constantLong y.cls i v ∈ z_tb) (k : Z y cc nL ret d K (pc + 3) lv (.long v :: st) h) : Z y cc nL ret d K pc lv st h := by
  intro p l e s m args below meth c D ad cA A H locs ls cx hP hD hS hl
  exact lv_ldc2 cx.1 cx.2.1 cx.2.2.2.2.2.1 (cx.2.2.2.2.2.2.1 _ hw) hd (k p l e s m args below meth c D ad cA A H locs ls cx hP hD hS hl)
theorem Z.iload_n {n : Fin 4} {i : Nat} {x : Int32} (hd : decode cc pc = .ok (.iload_n n, 1)) (hi : (n : Nat) = i) (hg : z_get lv i = some (.int x)) (k : Z y cc nL ret d K (pc + 1) lv (.int x :: st) h) : Z y cc nL ret d K pc lv st h := by
  intro p l e s m args below meth c D ad cA A H locs ls cx hP hD hS hl
  exact lv_iload_n cx.1 cx.2.1 hd hi (z_at hl hg) (k p l e s m args below meth c D ad cA A H locs ls cx hP hD hS hl)
theorem Z.iload {i : Nat} {x : Int32} (hd : decode cc pc = .ok (.iload i, 2)) (hg : z_get lv i = some (.int x)) (k : Z y cc nL ret d K (pc + 2) lv (.int x :: st) h) : Z y cc nL ret d K pc lv st h := by
  intro p l e s m args below meth c D ad cA A H locs ls cx hP hD hS hl
  exact lv_iload cx.1 cx.2.1 hd (z_at hl hg) (k p l e s m args below meth c D ad cA A H locs ls cx hP hD hS hl)
theorem Z.lload_n {n : Fin 4} {i : Nat} {x : Int64} (hd : decode cc pc = .ok (.lload_n n, 1)) (hi : (n : Nat) = i) (hg : z_get lv i = some (.long x)) (k : Z y cc nL ret d K (pc + 1) lv (.long x :: st) h) : Z y cc nL ret d K pc lv st h := by
  intro p l e s m args below meth c D ad cA A H locs ls cx hP hD hS hl
  exact lv_lload_n cx.1 cx.2.1 hd hi (z_at hl hg) (k p l e s m args below meth c D ad cA A H locs ls cx hP hD hS hl)
theorem Z.lload {i : Nat} {x : Int64} (hd : decode cc pc = .ok (.lload i, 2)) (hg : z_get lv i = some (.long x)) (k : Z y cc nL ret d K (pc + 2) lv (.long x :: st) h) : Z y cc nL ret d K pc lv st h := by
  intro p l e s m args below meth c D ad cA A H locs ls cx hP hD hS hl
  exact lv_lload cx.1 cx.2.1 hd (z_at hl hg) (k p l e s m args below meth c D ad cA A H locs ls cx hP hD hS hl)
theorem Z.aload_n {n : Fin 4} {i : Nat} {x : Nat} (hd : decode cc pc = .ok (.aload_n n, 1)) (hi : (n : Nat) = i) (hg : z_get lv i = some (.ref x)) (k : Z y cc nL ret d K (pc + 1) lv (.ref x :: st) h) : Z y cc nL ret d K pc lv st h := by
  intro p l e s m args below meth c D ad cA A H locs ls cx hP hD hS hl
  exact lv_aload_n cx.1 cx.2.1 hd hi (z_at hl hg) (k p l e s m args below meth c D ad cA A H locs ls cx hP hD hS hl)
theorem Z.aload {i : Nat} {x : Nat} (hd : decode cc pc = .ok (.aload i, 2)) (hg : z_get lv i = some (.ref x)) (k : Z y cc nL ret d K (pc + 2) lv (.ref x :: st) h) : Z y cc nL ret d K pc lv st h := by
  intro p l e s m args below meth c D ad cA A H locs ls cx hP hD hS hl
  exact lv_aload cx.1 cx.2.1 hd (z_at hl hg) (k p l e s m args below meth c D ad cA A H locs ls cx hP hD hS hl)
theorem Z.istore_n {n : Fin 4} {i : Nat} {x : Int32} (hd : decode cc pc = .ok (.istore_n n, 1)) (hi : (n : Nat) = i) (hn : i < nL) (ho : z_ok lv i (.int x) = true) (k : Z y cc nL ret d K (pc + 1) (z_set lv i (.int x)) st h) : Z y cc nL ret d K pc lv (.int x :: st) h := by
  intro p l e s m args below meth c D ad cA A H locs ls cx hP hD hS hl
  exact lv_istore_n cx.1 cx.2.1 hd hi hl hn rfl (fun ls hl => k p l e s m args below meth c D ad cA A H locs ls cx hP hD hS (z_st1 ho hl))
theorem Z.istore {i : Nat} {x : Int32} (hd : decode cc pc = .ok (.istore i, 2)) (hn : i < nL) (ho : z_ok lv i (.int x) = true) (k : Z y cc nL ret d K (pc + 2) (z_set lv i (.int x)) st h) : Z y cc nL ret d K pc lv (.int x :: st) h := by
  intro p l e s m args below meth c D ad cA A H locs ls cx hP hD hS hl
  exact lv_istore cx.1 cx.2.1 hd hl hn rfl (fun ls hl => k p l e s m args below meth c D ad cA A H locs ls cx hP hD hS (z_st1 ho hl))
theorem Z.lstore_n {n : Fin 4} {i : Nat} {x : Int64} (hd : decode cc pc = .ok (.lstore_n n, 1)) (hi : (n : Nat) = i) (hn : i + 1 < nL) (ho : z_ok lv i (.long x) = true) (k : Z y cc nL ret d K (pc + 1) (z_set lv i (.long x)) st h) : Z y cc nL ret d K pc lv (.long x :: st) h := by
  intro p l e s m args below meth c D ad cA A H locs ls cx hP hD hS hl
  exact lv_lstore_n cx.1 cx.2.1 hd hi hl hn rfl (fun ls hl => k p l e s m args below meth c D ad cA A H locs ls cx hP hD hS (z_st2 ho hl))
theorem Z.lstore {i : Nat} {x : Int64} (hd : decode cc pc = .ok (.lstore i, 2)) (hn : i + 1 < nL) (ho : z_ok lv i (.long x) = true) (k : Z y cc nL ret d K (pc + 2) (z_set lv i (.long x)) st h) : Z y cc nL ret d K pc lv (.long x :: st) h := by
  intro p l e s m args below meth c D ad cA A H locs ls cx hP hD hS hl
  exact lv_lstore cx.1 cx.2.1 hd hl hn rfl (fun ls hl => k p l e s m args below meth c D ad cA A H locs ls cx hP hD hS (z_st2 ho hl))
theorem Z.iinc {i : Nat} {n : Int} {x v : Int32} (hd : decode cc pc = .ok (.iinc i n, 3)) (hg : z_get lv i = some (.int x)) (hv : x + Int32.ofInt n = v) (hn : i < nL) (ho : z_ok lv i (.int v) = true) (k : Z y cc nL ret d K (pc + 3) (z_set lv i (.int v)) st h) : Z y cc nL ret d K pc lv st h := by
  intro p l e s m args below meth c D ad cA A H locs ls cx hP hD hS hl
  obtain ⟨j, hj⟩ := List.getElem?_of_mem (List.mem_map.mpr ⟨(i, .int x), z_get_mem hg, rfl⟩ : (i, z_v ad (.int x)) ∈ z_l ad lv)
  exact lv_iinc cx.1 cx.2.1 hd hl hj hv hn rfl (fun ls hl => k p l e s m args below meth c D ad cA A H locs ls cx hP hD hS (z_st1 ho hl))
theorem Z.iadd {a b : Int32} (hd : decode cc pc = .ok (.iadd, 1)) (k : Z y cc nL ret d K (pc + 1) lv (.int (a + b) :: st) h) : Z y cc nL ret d K pc lv (.int b :: .int a :: st) h := by
  intro p l e s m args below meth c D ad cA A H locs ls cx hP hD hS hl
  exact lv_iadd cx.1 cx.2.1 hd (k p l e s m args below meth c D ad cA A H locs ls cx hP hD hS hl)
theorem Z.isub {a b : Int32} (hd : decode cc pc = .ok (.isub, 1)) (k : Z y cc nL ret d K (pc + 1) lv (.int (a - b) :: st) h) : Z y cc nL ret d K pc lv (.int b :: .int a :: st) h := by
  intro p l e s m args below meth c D ad cA A H locs ls cx hP hD hS hl
  exact lv_isub cx.1 cx.2.1 hd (k p l e s m args below meth c D ad cA A H locs ls cx hP hD hS hl)
theorem Z.imul {a b : Int32} (hd : decode cc pc = .ok (.imul, 1)) (k : Z y cc nL ret d K (pc + 1) lv (.int (a * b) :: st) h) : Z y cc nL ret d K pc lv (.int b :: .int a :: st) h := by
  intro p l e s m args below meth c D ad cA A H locs ls cx hP hD hS hl
  exact lv_imul cx.1 cx.2.1 hd (k p l e s m args below meth c D ad cA A H locs ls cx hP hD hS hl)
theorem Z.iand {a b : Int32} (hd : decode cc pc = .ok (.iand, 1)) (k : Z y cc nL ret d K (pc + 1) lv (.int (a &&& b) :: st) h) : Z y cc nL ret d K pc lv (.int b :: .int a :: st) h := by
  intro p l e s m args below meth c D ad cA A H locs ls cx hP hD hS hl
  exact lv_iand cx.1 cx.2.1 hd (k p l e s m args below meth c D ad cA A H locs ls cx hP hD hS hl)
theorem Z.ior {a b : Int32} (hd : decode cc pc = .ok (.ior, 1)) (k : Z y cc nL ret d K (pc + 1) lv (.int (a ||| b) :: st) h) : Z y cc nL ret d K pc lv (.int b :: .int a :: st) h := by
  intro p l e s m args below meth c D ad cA A H locs ls cx hP hD hS hl
  exact lv_ior cx.1 cx.2.1 hd (k p l e s m args below meth c D ad cA A H locs ls cx hP hD hS hl)
theorem Z.ixor {a b : Int32} (hd : decode cc pc = .ok (.ixor, 1)) (k : Z y cc nL ret d K (pc + 1) lv (.int (a ^^^ b) :: st) h) : Z y cc nL ret d K pc lv (.int b :: .int a :: st) h := by
  intro p l e s m args below meth c D ad cA A H locs ls cx hP hD hS hl
  exact lv_ixor cx.1 cx.2.1 hd (k p l e s m args below meth c D ad cA A H locs ls cx hP hD hS hl)
theorem Z.ishl {a b : Int32} (hd : decode cc pc = .ok (.ishl, 1)) (k : Z y cc nL ret d K (pc + 1) lv (.int (a <<< (b &&& 31)) :: st) h) : Z y cc nL ret d K pc lv (.int b :: .int a :: st) h := by
  intro p l e s m args below meth c D ad cA A H locs ls cx hP hD hS hl
  exact lv_ishl cx.1 cx.2.1 hd (k p l e s m args below meth c D ad cA A H locs ls cx hP hD hS hl)
theorem Z.ishr {a b : Int32} (hd : decode cc pc = .ok (.ishr, 1)) (k : Z y cc nL ret d K (pc + 1) lv (.int (a >>> (b &&& 31)) :: st) h) : Z y cc nL ret d K pc lv (.int b :: .int a :: st) h := by
  intro p l e s m args below meth c D ad cA A H locs ls cx hP hD hS hl
  exact lv_ishr cx.1 cx.2.1 hd (k p l e s m args below meth c D ad cA A H locs ls cx hP hD hS hl)
theorem Z.iushr {a b : Int32} (hd : decode cc pc = .ok (.iushr, 1)) (k : Z y cc nL ret d K (pc + 1) lv (.int ((a.toUInt32 >>> (b.toUInt32 &&& Int32.toUInt32 31)).toInt32) :: st) h) : Z y cc nL ret d K pc lv (.int b :: .int a :: st) h := by
  intro p l e s m args below meth c D ad cA A H locs ls cx hP hD hS hl
  exact lv_iushr cx.1 cx.2.1 hd rfl (k p l e s m args below meth c D ad cA A H locs ls cx hP hD hS hl)
theorem Z.ineg {a : Int32} (hd : decode cc pc = .ok (.ineg, 1)) (k : Z y cc nL ret d K (pc + 1) lv (.int (-a) :: st) h) : Z y cc nL ret d K pc lv (.int a :: st) h := by
  intro p l e s m args below meth c D ad cA A H locs ls cx hP hD hS hl
  exact lv_ineg cx.1 cx.2.1 hd (k p l e s m args below meth c D ad cA A H locs ls cx hP hD hS hl)
theorem Z.idiv {a b : Int32} (hd : decode cc pc = .ok (.idiv, 1)) (hz : ¬ b = 0) (k : Z y cc nL ret d K (pc + 1) lv (.int (a / b) :: st) h) : Z y cc nL ret d K pc lv (.int b :: .int a :: st) h := by
  intro p l e s m args below meth c D ad cA A H locs ls cx hP hD hS hl
  exact lv_idiv cx.1 cx.2.1 hd hz (k p l e s m args below meth c D ad cA A H locs ls cx hP hD hS hl)
theorem Z.irem {a b : Int32} (hd : decode cc pc = .ok (.irem, 1)) (hz : ¬ b = 0) (k : Z y cc nL ret d K (pc + 1) lv (.int (a - a / b * b) :: st) h) : Z y cc nL ret d K pc lv (.int b :: .int a :: st) h := by
  intro p l e s m args below meth c D ad cA A H locs ls cx hP hD hS hl
  exact lv_irem cx.1 cx.2.1 hd hz (k p l e s m args below meth c D ad cA A H locs ls cx hP hD hS hl)
theorem Z.ladd {a b : Int64} (hd : decode cc pc = .ok (.ladd, 1)) (k : Z y cc nL ret d K (pc + 1) lv (.long (a + b) :: st) h) : Z y cc nL ret d K pc lv (.long b :: .long a :: st) h := by
  intro p l e s m args below meth c D ad cA A H locs ls cx hP hD hS hl
  exact lv_ladd cx.1 cx.2.1 hd (k p l e s m args below meth c D ad cA A H locs ls cx hP hD hS hl)
theorem Z.lmul {a b : Int64} (hd : decode cc pc = .ok (.lmul, 1)) (k : Z y cc nL ret d K (pc + 1) lv (.long (a * b) :: st) h) : Z y cc nL ret d K pc lv (.long b :: .long a :: st) h := by
  intro p l e s m args below meth c D ad cA A H locs ls cx hP hD hS hl
  exact lv_lmul cx.1 cx.2.1 hd (k p l e s m args below meth c D ad cA A H locs ls cx hP hD hS hl)
theorem Z.land {a b : Int64} (hd : decode cc pc = .ok (.land, 1)) (k : Z y cc nL ret d K (pc + 1) lv (.long (a &&& b) :: st) h) : Z y cc nL ret d K pc lv (.long b :: .long a :: st) h := by
  intro p l e s m args below meth c D ad cA A H locs ls cx hP hD hS hl
  exact lv_land cx.1 cx.2.1 hd (k p l e s m args below meth c D ad cA A H locs ls cx hP hD hS hl)
theorem Z.ldiv {a b : Int64} (hd : decode cc pc = .ok (.ldiv, 1)) (hz : ¬ b = 0) (k : Z y cc nL ret d K (pc + 1) lv (.long (a / b) :: st) h) : Z y cc nL ret d K pc lv (.long b :: .long a :: st) h := by
  intro p l e s m args below meth c D ad cA A H locs ls cx hP hD hS hl
  exact lv_ldiv cx.1 cx.2.1 hd hz (k p l e s m args below meth c D ad cA A H locs ls cx hP hD hS hl)
theorem Z.lrem {a b : Int64} (hd : decode cc pc = .ok (.lrem, 1)) (hz : ¬ b = 0) (k : Z y cc nL ret d K (pc + 1) lv (.long (a - a / b * b) :: st) h) : Z y cc nL ret d K pc lv (.long b :: .long a :: st) h := by
  intro p l e s m args below meth c D ad cA A H locs ls cx hP hD hS hl
  exact lv_lrem cx.1 cx.2.1 hd hz (k p l e s m args below meth c D ad cA A H locs ls cx hP hD hS hl)
theorem Z.i2l {a : Int32} (hd : decode cc pc = .ok (.i2l, 1)) (k : Z y cc nL ret d K (pc + 1) lv (.long a.toInt64 :: st) h) : Z y cc nL ret d K pc lv (.int a :: st) h := by
  intro p l e s m args below meth c D ad cA A H locs ls cx hP hD hS hl
  exact lv_i2l cx.1 cx.2.1 hd rfl (k p l e s m args below meth c D ad cA A H locs ls cx hP hD hS hl)
theorem Z.l2i {a : Int64} (hd : decode cc pc = .ok (.l2i, 1)) (k : Z y cc nL ret d K (pc + 1) lv (.int a.toInt32 :: st) h) : Z y cc nL ret d K pc lv (.long a :: st) h := by
  intro p l e s m args below meth c D ad cA A H locs ls cx hP hD hS hl
  exact lv_l2i cx.1 cx.2.1 hd rfl (k p l e s m args below meth c D ad cA A H locs ls cx hP hD hS hl)
theorem Z.i2b {a : Int32} (hd : decode cc pc = .ok (.i2b, 1)) (k : Z y cc nL ret d K (pc + 1) lv (.int a.toInt8.toInt32 :: st) h) : Z y cc nL ret d K pc lv (.int a :: st) h := by
  intro p l e s m args below meth c D ad cA A H locs ls cx hP hD hS hl
  exact lv_i2b cx.1 cx.2.1 hd rfl (k p l e s m args below meth c D ad cA A H locs ls cx hP hD hS hl)
theorem Z.i2c {a : Int32} (hd : decode cc pc = .ok (.i2c, 1)) (k : Z y cc nL ret d K (pc + 1) lv (.int (a.toUInt32 % 65536).toInt32 :: st) h) : Z y cc nL ret d K pc lv (.int a :: st) h := by
  intro p l e s m args below meth c D ad cA A H locs ls cx hP hD hS hl
  exact lv_i2c cx.1 cx.2.1 hd rfl (k p l e s m args below meth c D ad cA A H locs ls cx hP hD hS hl)
theorem Z.dup {v : Value} (hd : decode cc pc = .ok (.dup, 1)) (hc : v.category = 1) (k : Z y cc nL ret d K (pc + 1) lv (v :: v :: st) h) : Z y cc nL ret d K pc lv (v :: st) h := by
  intro p l e s m args below meth c D ad cA A H locs ls cx hP hD hS hl
  exact lv_dup cx.1 cx.2.1 hd ((z_v_cat ad v).trans hc) (k p l e s m args below meth c D ad cA A H locs ls cx hP hD hS hl)
theorem Z.pop {v : Value} (hd : decode cc pc = .ok (.pop, 1)) (hc : v.category = 1) (k : Z y cc nL ret d K (pc + 1) lv st h) : Z y cc nL ret d K pc lv (v :: st) h := by
  intro p l e s m args below meth c D ad cA A H locs ls cx hP hD hS hl
  exact lv_pop cx.1 cx.2.1 hd ((z_v_cat ad v).trans hc) (k p l e s m args below meth c D ad cA A H locs ls cx hP hD hS hl)
theorem Z.goto {off : Int} {tgt : Nat} (hd : decode cc pc = .ok (.goto off, 3)) (ht : (pc : Int) + off = (tgt : Int)) (k : Z y cc nL ret d K (tgt) lv st h) : Z y cc nL ret d K pc lv st h := by
  intro p l e s m args below meth c D ad cA A H locs ls cx hP hD hS hl
  exact lv_goto cx.1 cx.2.1 hd ht (k p l e s m args below meth c D ad cA A H locs ls cx hP hD hS hl)
theorem Z.icmp_eq {a b : Int32} {off : Int} {tgt : Nat} (hd : decode cc pc = .ok (.if_icmp .eq off, 3)) (ht : (pc : Int) + off = (tgt : Int)) (kt : a = b → Z y cc nL ret d K tgt lv st h) (kf : ¬ a = b → Z y cc nL ret d K (pc + 3) lv st h) : Z y cc nL ret d K pc lv (.int b :: .int a :: st) h := by
  intro p l e s m args below meth c D ad cA A H locs ls cx hP hD hS hl
  exact lv_icmp_eq cx.1 cx.2.1 hd ht (fun q => kt q p l e s m args below meth c D ad cA A H locs ls cx hP hD hS hl) (fun q => kf q p l e s m args below meth c D ad cA A H locs ls cx hP hD hS hl)
theorem Z.icmp_eq_t {a b : Int32} {off : Int} {tgt : Nat} (hd : decode cc pc = .ok (.if_icmp .eq off, 3)) (ht : (pc : Int) + off = (tgt : Int)) (hc : a = b) (k : Z y cc nL ret d K tgt lv st h) : Z y cc nL ret d K pc lv (.int b :: .int a :: st) h := Z.icmp_eq hd ht (fun _ => k) (fun q => absurd hc q)
theorem Z.icmp_eq_f {a b : Int32} {off : Int} {tgt : Nat} (hd : decode cc pc = .ok (.if_icmp .eq off, 3)) (ht : (pc : Int) + off = (tgt : Int)) (hc : ¬ a = b) (k : Z y cc nL ret d K (pc + 3) lv st h) : Z y cc nL ret d K pc lv (.int b :: .int a :: st) h := Z.icmp_eq hd ht (fun q => absurd q hc) (fun _ => k)
theorem Z.icmp_ne {a b : Int32} {off : Int} {tgt : Nat} (hd : decode cc pc = .ok (.if_icmp .ne off, 3)) (ht : (pc : Int) + off = (tgt : Int)) (kt : ¬ a = b → Z y cc nL ret d K tgt lv st h) (kf : a = b → Z y cc nL ret d K (pc + 3) lv st h) : Z y cc nL ret d K pc lv (.int b :: .int a :: st) h := by
  intro p l e s m args below meth c D ad cA A H locs ls cx hP hD hS hl
  exact lv_icmp_ne cx.1 cx.2.1 hd ht (fun q => kt q p l e s m args below meth c D ad cA A H locs ls cx hP hD hS hl) (fun q => kf q p l e s m args below meth c D ad cA A H locs ls cx hP hD hS hl)
theorem Z.icmp_ne_t {a b : Int32} {off : Int} {tgt : Nat} (hd : decode cc pc = .ok (.if_icmp .ne off, 3)) (ht : (pc : Int) + off = (tgt : Int)) (hc : ¬ a = b) (k : Z y cc nL ret d K tgt lv st h) : Z y cc nL ret d K pc lv (.int b :: .int a :: st) h := Z.icmp_ne hd ht (fun _ => k) (fun q => absurd q hc)
theorem Z.icmp_ne_f {a b : Int32} {off : Int} {tgt : Nat} (hd : decode cc pc = .ok (.if_icmp .ne off, 3)) (ht : (pc : Int) + off = (tgt : Int)) (hc : a = b) (k : Z y cc nL ret d K (pc + 3) lv st h) : Z y cc nL ret d K pc lv (.int b :: .int a :: st) h := Z.icmp_ne hd ht (fun q => absurd hc q) (fun _ => k)
theorem Z.icmp_lt {a b : Int32} {off : Int} {tgt : Nat} (hd : decode cc pc = .ok (.if_icmp .lt off, 3)) (ht : (pc : Int) + off = (tgt : Int)) (kt : a < b → Z y cc nL ret d K tgt lv st h) (kf : ¬ a < b → Z y cc nL ret d K (pc + 3) lv st h) : Z y cc nL ret d K pc lv (.int b :: .int a :: st) h := by
  intro p l e s m args below meth c D ad cA A H locs ls cx hP hD hS hl
  exact lv_icmp_lt cx.1 cx.2.1 hd ht (fun q => kt q p l e s m args below meth c D ad cA A H locs ls cx hP hD hS hl) (fun q => kf q p l e s m args below meth c D ad cA A H locs ls cx hP hD hS hl)
theorem Z.icmp_lt_t {a b : Int32} {off : Int} {tgt : Nat} (hd : decode cc pc = .ok (.if_icmp .lt off, 3)) (ht : (pc : Int) + off = (tgt : Int)) (hc : a < b) (k : Z y cc nL ret d K tgt lv st h) : Z y cc nL ret d K pc lv (.int b :: .int a :: st) h := Z.icmp_lt hd ht (fun _ => k) (fun q => absurd hc q)
theorem Z.icmp_lt_f {a b : Int32} {off : Int} {tgt : Nat} (hd : decode cc pc = .ok (.if_icmp .lt off, 3)) (ht : (pc : Int) + off = (tgt : Int)) (hc : ¬ a < b) (k : Z y cc nL ret d K (pc + 3) lv st h) : Z y cc nL ret d K pc lv (.int b :: .int a :: st) h := Z.icmp_lt hd ht (fun q => absurd q hc) (fun _ => k)
theorem Z.icmp_ge {a b : Int32} {off : Int} {tgt : Nat} (hd : decode cc pc = .ok (.if_icmp .ge off, 3)) (ht : (pc : Int) + off = (tgt : Int)) (kt : b ≤ a → Z y cc nL ret d K tgt lv st h) (kf : ¬ b ≤ a → Z y cc nL ret d K (pc + 3) lv st h) : Z y cc nL ret d K pc lv (.int b :: .int a :: st) h := by
  intro p l e s m args below meth c D ad cA A H locs ls cx hP hD hS hl
  exact lv_icmp_ge cx.1 cx.2.1 hd ht (fun q => kt q p l e s m args below meth c D ad cA A H locs ls cx hP hD hS hl) (fun q => kf q p l e s m args below meth c D ad cA A H locs ls cx hP hD hS hl)
theorem Z.icmp_ge_t {a b : Int32} {off : Int} {tgt : Nat} (hd : decode cc pc = .ok (.if_icmp .ge off, 3)) (ht : (pc : Int) + off = (tgt : Int)) (hc : b ≤ a) (k : Z y cc nL ret d K tgt lv st h) : Z y cc nL ret d K pc lv (.int b :: .int a :: st) h := Z.icmp_ge hd ht (fun _ => k) (fun q => absurd hc q)
theorem Z.icmp_ge_f {a b : Int32} {off : Int} {tgt : Nat} (hd : decode cc pc = .ok (.if_icmp .ge off, 3)) (ht : (pc : Int) + off = (tgt : Int)) (hc : ¬ b ≤ a) (k : Z y cc nL ret d K (pc + 3) lv st h) : Z y cc nL ret d K pc lv (.int b :: .int a :: st) h := Z.icmp_ge hd ht (fun q => absurd q hc) (fun _ => k)
theorem Z.icmp_gt {a b : Int32} {off : Int} {tgt : Nat} (hd : decode cc pc = .ok (.if_icmp .gt off, 3)) (ht : (pc : Int) + off = (tgt : Int)) (kt : b < a → Z y cc nL ret d K tgt lv st h) (kf : ¬ b < a → Z y cc nL ret d K (pc + 3) lv st h) : Z y cc nL ret d K pc lv (.int b :: .int a :: st) h := by
  intro p l e s m args below meth c D ad cA A H locs ls cx hP hD hS hl
  exact lv_icmp_gt cx.1 cx.2.1 hd ht (fun q => kt q p l e s m args below meth c D ad cA A H locs ls cx hP hD hS hl) (fun q => kf q p l e s m args below meth c D ad cA A H locs ls cx hP hD hS hl)
theorem Z.icmp_gt_t {a b : Int32} {off : Int} {tgt : Nat} (hd : decode cc pc = .ok (.if_icmp .gt off, 3)) (ht : (pc : Int) + off = (tgt : Int)) (hc : b < a) (k : Z y cc nL ret d K tgt lv st h) : Z y cc nL ret d K pc lv (.int b :: .int a :: st) h := Z.icmp_gt hd ht (fun _ => k) (fun q => absurd hc q)
theorem Z.icmp_gt_f {a b : Int32} {off : Int} {tgt : Nat} (hd : decode cc pc = .ok (.if_icmp .gt off, 3)) (ht : (pc : Int) + off = (tgt : Int)) (hc : ¬ b < a) (k : Z y cc nL ret d K (pc + 3) lv st h) : Z y cc nL ret d K pc lv (.int b :: .int a :: st) h := Z.icmp_gt hd ht (fun q => absurd q hc) (fun _ => k)
theorem Z.icmp_le {a b : Int32} {off : Int} {tgt : Nat} (hd : decode cc pc = .ok (.if_icmp .le off, 3)) (ht : (pc : Int) + off = (tgt : Int)) (kt : a ≤ b → Z y cc nL ret d K tgt lv st h) (kf : ¬ a ≤ b → Z y cc nL ret d K (pc + 3) lv st h) : Z y cc nL ret d K pc lv (.int b :: .int a :: st) h := by
  intro p l e s m args below meth c D ad cA A H locs ls cx hP hD hS hl
  exact lv_icmp_le cx.1 cx.2.1 hd ht (fun q => kt q p l e s m args below meth c D ad cA A H locs ls cx hP hD hS hl) (fun q => kf q p l e s m args below meth c D ad cA A H locs ls cx hP hD hS hl)
theorem Z.icmp_le_t {a b : Int32} {off : Int} {tgt : Nat} (hd : decode cc pc = .ok (.if_icmp .le off, 3)) (ht : (pc : Int) + off = (tgt : Int)) (hc : a ≤ b) (k : Z y cc nL ret d K tgt lv st h) : Z y cc nL ret d K pc lv (.int b :: .int a :: st) h := Z.icmp_le hd ht (fun _ => k) (fun q => absurd hc q)
theorem Z.icmp_le_f {a b : Int32} {off : Int} {tgt : Nat} (hd : decode cc pc = .ok (.if_icmp .le off, 3)) (ht : (pc : Int) + off = (tgt : Int)) (hc : ¬ a ≤ b) (k : Z y cc nL ret d K (pc + 3) lv st h) : Z y cc nL ret d K pc lv (.int b :: .int a :: st) h := Z.icmp_le hd ht (fun q => absurd q hc) (fun _ => k)
theorem Z.if_eq {a : Int32} {off : Int} {tgt : Nat} (hd : decode cc pc = .ok (.ifCond .eq off, 3)) (ht : (pc : Int) + off = (tgt : Int)) (kt : a = 0 → Z y cc nL ret d K tgt lv st h) (kf : ¬ a = 0 → Z y cc nL ret d K (pc + 3) lv st h) : Z y cc nL ret d K pc lv (.int a :: st) h := by
  intro p l e s m args below meth c D ad cA A H locs ls cx hP hD hS hl
  exact lv_if_eq cx.1 cx.2.1 hd ht (fun q => kt q p l e s m args below meth c D ad cA A H locs ls cx hP hD hS hl) (fun q => kf q p l e s m args below meth c D ad cA A H locs ls cx hP hD hS hl)
theorem Z.if_eq_t {a : Int32} {off : Int} {tgt : Nat} (hd : decode cc pc = .ok (.ifCond .eq off, 3)) (ht : (pc : Int) + off = (tgt : Int)) (hc : a = 0) (k : Z y cc nL ret d K tgt lv st h) : Z y cc nL ret d K pc lv (.int a :: st) h := Z.if_eq hd ht (fun _ => k) (fun q => absurd hc q)
theorem Z.if_eq_f {a : Int32} {off : Int} {tgt : Nat} (hd : decode cc pc = .ok (.ifCond .eq off, 3)) (ht : (pc : Int) + off = (tgt : Int)) (hc : ¬ a = 0) (k : Z y cc nL ret d K (pc + 3) lv st h) : Z y cc nL ret d K pc lv (.int a :: st) h := Z.if_eq hd ht (fun q => absurd q hc) (fun _ => k)
theorem Z.if_ne {a : Int32} {off : Int} {tgt : Nat} (hd : decode cc pc = .ok (.ifCond .ne off, 3)) (ht : (pc : Int) + off = (tgt : Int)) (kt : ¬ a = 0 → Z y cc nL ret d K tgt lv st h) (kf : a = 0 → Z y cc nL ret d K (pc + 3) lv st h) : Z y cc nL ret d K pc lv (.int a :: st) h := by
  intro p l e s m args below meth c D ad cA A H locs ls cx hP hD hS hl
  exact lv_if_ne cx.1 cx.2.1 hd ht (fun q => kt q p l e s m args below meth c D ad cA A H locs ls cx hP hD hS hl) (fun q => kf q p l e s m args below meth c D ad cA A H locs ls cx hP hD hS hl)
theorem Z.if_ne_t {a : Int32} {off : Int} {tgt : Nat} (hd : decode cc pc = .ok (.ifCond .ne off, 3)) (ht : (pc : Int) + off = (tgt : Int)) (hc : ¬ a = 0) (k : Z y cc nL ret d K tgt lv st h) : Z y cc nL ret d K pc lv (.int a :: st) h := Z.if_ne hd ht (fun _ => k) (fun q => absurd q hc)
theorem Z.if_ne_f {a : Int32} {off : Int} {tgt : Nat} (hd : decode cc pc = .ok (.ifCond .ne off, 3)) (ht : (pc : Int) + off = (tgt : Int)) (hc : a = 0) (k : Z y cc nL ret d K (pc + 3) lv st h) : Z y cc nL ret d K pc lv (.int a :: st) h := Z.if_ne hd ht (fun q => absurd hc q) (fun _ => k)
theorem Z.if_lt {a : Int32} {off : Int} {tgt : Nat} (hd : decode cc pc = .ok (.ifCond .lt off, 3)) (ht : (pc : Int) + off = (tgt : Int)) (kt : a < 0 → Z y cc nL ret d K tgt lv st h) (kf : ¬ a < 0 → Z y cc nL ret d K (pc + 3) lv st h) : Z y cc nL ret d K pc lv (.int a :: st) h := by
  intro p l e s m args below meth c D ad cA A H locs ls cx hP hD hS hl
  exact lv_if_lt cx.1 cx.2.1 hd ht (fun q => kt q p l e s m args below meth c D ad cA A H locs ls cx hP hD hS hl) (fun q => kf q p l e s m args below meth c D ad cA A H locs ls cx hP hD hS hl)
theorem Z.if_lt_t {a : Int32} {off : Int} {tgt : Nat} (hd : decode cc pc = .ok (.ifCond .lt off, 3)) (ht : (pc : Int) + off = (tgt : Int)) (hc : a < 0) (k : Z y cc nL ret d K tgt lv st h) : Z y cc nL ret d K pc lv (.int a :: st) h := Z.if_lt hd ht (fun _ => k) (fun q => absurd hc q)
theorem Z.if_lt_f {a : Int32} {off : Int} {tgt : Nat} (hd : decode cc pc = .ok (.ifCond .lt off, 3)) (ht : (pc : Int) + off = (tgt : Int)) (hc : ¬ a < 0) (k : Z y cc nL ret d K (pc + 3) lv st h) : Z y cc nL ret d K pc lv (.int a :: st) h := Z.if_lt hd ht (fun q => absurd q hc) (fun _ => k)
theorem Z.if_ge {a : Int32} {off : Int} {tgt : Nat} (hd : decode cc pc = .ok (.ifCond .ge off, 3)) (ht : (pc : Int) + off = (tgt : Int)) (kt : 0 ≤ a → Z y cc nL ret d K tgt lv st h) (kf : ¬ 0 ≤ a → Z y cc nL ret d K (pc + 3) lv st h) : Z y cc nL ret d K pc lv (.int a :: st) h := by
  intro p l e s m args below meth c D ad cA A H locs ls cx hP hD hS hl
  exact lv_if_ge cx.1 cx.2.1 hd ht (fun q => kt q p l e s m args below meth c D ad cA A H locs ls cx hP hD hS hl) (fun q => kf q p l e s m args below meth c D ad cA A H locs ls cx hP hD hS hl)
theorem Z.if_ge_t {a : Int32} {off : Int} {tgt : Nat} (hd : decode cc pc = .ok (.ifCond .ge off, 3)) (ht : (pc : Int) + off = (tgt : Int)) (hc : 0 ≤ a) (k : Z y cc nL ret d K tgt lv st h) : Z y cc nL ret d K pc lv (.int a :: st) h := Z.if_ge hd ht (fun _ => k) (fun q => absurd hc q)
theorem Z.if_ge_f {a : Int32} {off : Int} {tgt : Nat} (hd : decode cc pc = .ok (.ifCond .ge off, 3)) (ht : (pc : Int) + off = (tgt : Int)) (hc : ¬ 0 ≤ a) (k : Z y cc nL ret d K (pc + 3) lv st h) : Z y cc nL ret d K pc lv (.int a :: st) h := Z.if_ge hd ht (fun q => absurd q hc) (fun _ => k)
theorem Z.if_gt {a : Int32} {off : Int} {tgt : Nat} (hd : decode cc pc = .ok (.ifCond .gt off, 3)) (ht : (pc : Int) + off = (tgt : Int)) (kt : 0 < a → Z y cc nL ret d K tgt lv st h) (kf : ¬ 0 < a → Z y cc nL ret d K (pc + 3) lv st h) : Z y cc nL ret d K pc lv (.int a :: st) h := by
  intro p l e s m args below meth c D ad cA A H locs ls cx hP hD hS hl
  exact lv_if_gt cx.1 cx.2.1 hd ht (fun q => kt q p l e s m args below meth c D ad cA A H locs ls cx hP hD hS hl) (fun q => kf q p l e s m args below meth c D ad cA A H locs ls cx hP hD hS hl)
theorem Z.if_gt_t {a : Int32} {off : Int} {tgt : Nat} (hd : decode cc pc = .ok (.ifCond .gt off, 3)) (ht : (pc : Int) + off = (tgt : Int)) (hc : 0 < a) (k : Z y cc nL ret d K tgt lv st h) : Z y cc nL ret d K pc lv (.int a :: st) h := Z.if_gt hd ht (fun _ => k) (fun q => absurd hc q)
theorem Z.if_gt_f {a : Int32} {off : Int} {tgt : Nat} (hd : decode cc pc = .ok (.ifCond .gt off, 3)) (ht : (pc : Int) + off = (tgt : Int)) (hc : ¬ 0 < a) (k : Z y cc nL ret d K (pc + 3) lv st h) : Z y cc nL ret d K pc lv (.int a :: st) h := Z.if_gt hd ht (fun q => absurd q hc) (fun _ => k)
theorem Z.if_le {a : Int32} {off : Int} {tgt : Nat} (hd : decode cc pc = .ok (.ifCond .le off, 3)) (ht : (pc : Int) + off = (tgt : Int)) (kt : a ≤ 0 → Z y cc nL ret d K tgt lv st h) (kf : ¬ a ≤ 0 → Z y cc nL ret d K (pc + 3) lv st h) : Z y cc nL ret d K pc lv (.int a :: st) h := by
  intro p l e s m args below meth c D ad cA A H locs ls cx hP hD hS hl
  exact lv_if_le cx.1 cx.2.1 hd ht (fun q => kt q p l e s m args below meth c D ad cA A H locs ls cx hP hD hS hl) (fun q => kf q p l e s m args below meth c D ad cA A H locs ls cx hP hD hS hl)
theorem Z.if_le_t {a : Int32} {off : Int} {tgt : Nat} (hd : decode cc pc = .ok (.ifCond .le off, 3)) (ht : (pc : Int) + off = (tgt : Int)) (hc : a ≤ 0) (k : Z y cc nL ret d K tgt lv st h) : Z y cc nL ret d K pc lv (.int a :: st) h := Z.if_le hd ht (fun _ => k) (fun q => absurd hc q)
theorem Z.if_le_f {a : Int32} {off : Int} {tgt : Nat} (hd : decode cc pc = .ok (.ifCond .le off, 3)) (ht : (pc : Int) + off = (tgt : Int)) (hc : ¬ a ≤ 0) (k : Z y cc nL ret d K (pc + 3) lv st h) : Z y cc nL ret d K pc lv (.int a :: st) h := Z.if_le hd ht (fun q => absurd q hc) (fun _ => k)
theorem Z.lookup {dflt : Int} {ps : Array (Int × Int)} {len : Nat} {a : Int32} {off : Int} {tgt : Nat} (hd : decode cc pc = .ok (.lookupswitch dflt ps, len)) (hp : (ps.toList.zip (ps.toList.drop 1)).all (fun (a, next) => a.1 < next.1) = true) (ho : Op.lookupswitch.offset ps.toList dflt a.toInt = off) (ht : (pc : Int) + off = (tgt : Int)) (k : Z y cc nL ret d K (tgt) lv st h) : Z y cc nL ret d K pc lv (.int a :: st) h := by
  intro p l e s m args below meth c D ad cA A H locs ls cx hP hD hS hl
  exact lv_lookup cx.1 cx.2.1 hd hp ho ht (k p l e s m args below meth c D ad cA A H locs ls cx hP hD hS hl)
theorem Z.tableIn {dflt lo hi : Int} {offs : Array Int} {len : Nat} {a : Int32} {off : Int} {tgt : Nat} (hd : decode cc pc = .ok (.tableswitch dflt lo hi offs, len)) (h1 : ¬ a.toInt < lo) (h2 : ¬ hi < a.toInt) (ho : offs[(a.toInt - lo).toNat]? = some off) (ht : (pc : Int) + off = (tgt : Int)) (k : Z y cc nL ret d K (tgt) lv st h) : Z y cc nL ret d K pc lv (.int a :: st) h := by
  intro p l e s m args below meth c D ad cA A H locs ls cx hP hD hS hl
  exact lv_tableIn cx.1 cx.2.1 hd h1 h2 ho ht (k p l e s m args below meth c D ad cA A H locs ls cx hP hD hS hl)
theorem Z.tableOut {dflt lo hi : Int} {offs : Array Int} {len : Nat} {a : Int32} {tgt : Nat} (hd : decode cc pc = .ok (.tableswitch dflt lo hi offs, len)) (h1 : a.toInt < lo ∨ hi < a.toInt) (ht : (pc : Int) + dflt = (tgt : Int)) (k : Z y cc nL ret d K (tgt) lv st h) : Z y cc nL ret d K pc lv (.int a :: st) h := by
  intro p l e s m args below meth c D ad cA A H locs ls cx hP hD hS hl
  exact lv_tableOut cx.1 cx.2.1 hd h1 ht (k p l e s m args below meth c D ad cA A H locs ls cx hP hD hS hl)
theorem z_field {ad : Nat → Nat} {h : hp} {i k t : Nat} {fs : List Nat} (hk : fs[k]? = some t) : (fs.mapIdx (fun j t => z_f ad h i j t))[k]? = some (z_f ad h i k t) := by
  rw [List.getElem?_mapIdx, hk]
  rfl
theorem z_getf {idx ci i k0 t : Nat} {fs : List Nat} {v : Value} (hd : decode cc pc = .ok (.getfield idx, 3)) (hw : z_fw y.cls idx ci k0) (hs : z_sh[i]? = some (.inr (ci, fs))) (hk : fs[k0]? = some t) (hv : ∀ ad, z_f ad h i k0 t = z_v ad v) (k : Z y cc nL ret d K (pc + 3) lv (v :: st) h) : Z y cc nL ret d K pc lv (.ref i :: st) h := by
  intro p l e s m args below meth c D ad cA A H locs ls cx hP hD hS hl
  obtain ⟨C, T, N, hc, hkN, hlink, hin⟩ := hw
  have hts := cx.2.2.2.2.2.2.1
  exact va_get (D := D) (C := C) (T := T) (N := N) (ci := ci) cx.1 cx.2.1 hts hin cx.2.2.2.2.2.1 cx.2.2.2.2.2.2.2.2.1 hP i (z_w_at hs) hc k0 hkN (hts _ hlink) (fun _ q => q) (v := z_v ad v) (by rw [← hv]; exact z_field hk) hd (k p l e s m args below meth c D ad cA A H locs ls cx hP hD hS hl)
theorem Z.getI {idx ci i k0 : Nat} {fs : List Nat} (hd : decode cc pc = .ok (.getfield idx, 3)) (hw : z_fw y.cls idx ci k0) (hs : z_sh[i]? = some (.inr (ci, fs))) (hk : fs[k0]? = some 0) (k : Z y cc nL ret d K (pc + 3) lv (.int (h.1 i k0) :: st) h) : Z y cc nL ret d K pc lv (.ref i :: st) h := z_getf hd hw hs hk (fun _ => rfl) k
theorem Z.getIv {idx ci i k0 : Nat} {fs : List Nat} {v : Int32} (hd : decode cc pc = .ok (.getfield idx, 3)) (hw : z_fw y.cls idx ci k0) (hs : z_sh[i]? = some (.inr (ci, fs))) (hk : fs[k0]? = some 0) (hv : h.1 i k0 = v) (k : Z y cc nL ret d K (pc + 3) lv (.int v :: st) h) : Z y cc nL ret d K pc lv (.ref i :: st) h := z_getf hd hw hs hk (fun _ => by rw [← hv]; rfl) k
theorem Z.getL {idx ci i k0 : Nat} {fs : List Nat} (hd : decode cc pc = .ok (.getfield idx, 3)) (hw : z_fw y.cls idx ci k0) (hs : z_sh[i]? = some (.inr (ci, fs))) (hk : fs[k0]? = some 1) (k : Z y cc nL ret d K (pc + 3) lv (.long (h.2 i k0) :: st) h) : Z y cc nL ret d K pc lv (.ref i :: st) h := z_getf hd hw hs hk (fun _ => rfl) k
theorem Z.getR {idx ci i k0 j : Nat} {fs : List Nat} (hd : decode cc pc = .ok (.getfield idx, 3)) (hw : z_fw y.cls idx ci k0) (hs : z_sh[i]? = some (.inr (ci, fs))) (hk : fs[k0]? = some (j + 2)) (k : Z y cc nL ret d K (pc + 3) lv (.ref j :: st) h) : Z y cc nL ret d K pc lv (.ref i :: st) h := z_getf hd hw hs hk (fun _ => rfl) k
theorem z_set_obj {ad : Nat → Nat} {cA : Nat → ClassId} {h h' : hp} {i k0 ci t : Nat} {fs : List Nat} (hs : z_sh[i]? = some (.inr (ci, fs))) (hk : fs[k0]? = some t) (ho : ∀ (j : Nat) (c' : z_C), j ≠ i → z_e ad cA h' j c' = z_e ad cA h j c') (hf : ∀ j t', j ≠ k0 → z_f ad h' i j t' = z_f ad h i j t') :
    (z_w ad cA h).set i (ad i, .inr (ci, (fs.mapIdx (fun j t => z_f ad h i j t)).set k0 (z_f ad h' i k0 t))) = z_w ad cA h' := by
  refine z_w_set hs ?_ ho
  show Sum.inr (ci, _) = Sum.inr (ci, _)
  congr 2
  apply List.ext_getElem?
  intro j
  have hl : k0 < fs.length := (List.getElem?_eq_some_iff.mp hk).1
  by_cases hj : j = k0
  · subst hj
    rw [List.getElem?_set_self (by simpa using hl), List.getElem?_mapIdx, hk]
    rfl
  · rw [List.getElem?_set_ne (Ne.symm hj), List.getElem?_mapIdx, List.getElem?_mapIdx]
    cases fs[j]? with
    | none => rfl
    | some t' => simp only [Option.map_some]; rw [hf j t' hj]
theorem z_putf {idx ci i k0 t : Nat} {fs : List Nat} {ty : FieldType} {v : Value} {h' : hp} (hd : decode cc pc = .ok (.putfield idx, 3)) (hw : z_fp y.cls idx ci k0 ty) (hs : z_sh[i]? = some (.inr (ci, fs))) (hk : fs[k0]? = some t) (hn : narrow ty v = v) (hft : fits ty v = true)
    (hv : ∀ ad, z_f ad h' i k0 t = v) (hvv : ∀ ad, z_v ad v = v) (ho : ∀ ad cA (j : Nat) (c' : z_C), j ≠ i → z_e ad cA h' j c' = z_e ad cA h j c') (hf : ∀ ad j t', j ≠ k0 → z_f ad h' i j t' = z_f ad h i j t') (k : Z y cc nL ret d K (pc + 3) lv st h') : Z y cc nL ret d K pc lv (v :: .ref i :: st) h := by
  intro p l e s m args below meth c D ad cA A H locs ls cx hP hD hS hl
  obtain ⟨C, T, N, ty0, hc, hkN, hlink, hin, hty, hnm, hfin, hpd⟩ := hw
  have hts := cx.2.2.2.2.2.2.1
  have e1 : z_v ad v = v := hvv ad
  have e2 : (z_w ad cA h).set i (ad i, .inr (ci, (fs.mapIdx (fun j t => z_f ad h i j t)).set k0 v)) = z_w ad cA h' := by
    rw [← hv ad]
    exact z_set_obj hs hk (ho ad cA) (hf ad)
  have hlen : k0 < (fs.mapIdx (fun j t => z_f ad h i j t)).length := by
    simpa using (List.getElem?_eq_some_iff.mp hk).1
  rw [List.map_cons, e1]
  refine va_put (D := D) (C := C) (T := T) (N := N) (ci := ci) cx.1 cx.2.1 hts hin ty0 hty hnm cx.2.2.2.2.2.1 cx.2.2.2.2.2.2.2.2.1 hP hD hS i (z_w_at hs) hc k0 hkN (hts _ hlink) (fun _ q => q) hfin hpd hn hft hlen hd (fun H locs hP hD hS => ?_)
  rw [e2] at hP hD
  exact k p l e s m args below meth c D ad cA A H locs ls cx hP hD hS hl
theorem z_f_up {ad : Nat → Nat} {h : hp} {i k0 : Nat} {v : Int32} (j t' : Nat) (hj : j ≠ k0) : z_f ad (z_up h i k0 v) i j t' = z_f ad h i j t' := by
  match t' with
  | 0 => simp [z_f, z_up, va_up, upd, hj]
  | 1 => rfl
  | k + 2 => rfl
theorem z_f_upL {ad : Nat → Nat} {h : hp} {i k0 : Nat} {v : Int64} (j t' : Nat) (hj : j ≠ k0) : z_f ad (z_upL h i k0 v) i j t' = z_f ad h i j t' := by
  match t' with
  | 0 => rfl
  | 1 => simp [z_f, z_upL, va_up, vp_updL, hj]
  | k + 2 => rfl
theorem Z.putI {idx ci i k0 : Nat} {fs : List Nat} {ty : FieldType} {v : Int32} (hd : decode cc pc = .ok (.putfield idx, 3)) (hw : z_fp y.cls idx ci k0 ty) (hs : z_sh[i]? = some (.inr (ci, fs))) (hk : fs[k0]? = some 0) (hn : narrow ty (.int v) = .int v) (hft : fits ty (.int v) = true) (k : Z y cc nL ret d K (pc + 3) lv st (z_up h i k0 v)) : Z y cc nL ret d K pc lv (.int v :: .ref i :: st) h :=
  z_putf (h' := z_up h i k0 v) hd hw hs hk hn hft (fun _ => by simp [z_f, z_up, va_up, upd]) (fun _ => rfl) (fun _ _ _ _ hj => z_e_row hj) (fun _ j t' hj => z_f_up j t' hj) k
theorem Z.putL {idx ci i k0 : Nat} {fs : List Nat} {v : Int64} (hd : decode cc pc = .ok (.putfield idx, 3)) (hw : z_fp y.cls idx ci k0 .long) (hs : z_sh[i]? = some (.inr (ci, fs))) (hk : fs[k0]? = some 1) (k : Z y cc nL ret d K (pc + 3) lv st (z_upL h i k0 v)) : Z y cc nL ret d K pc lv (.long v :: .ref i :: st) h :=
  z_putf (h' := z_upL h i k0 v) hd hw hs hk rfl rfl (fun _ => by simp [z_f, z_upL, va_up, vp_updL]) (fun _ => rfl) (fun _ _ _ _ hj => z_e_upL hj) (fun _ j t' hj => z_f_upL j t' hj) k
theorem Z.iald {i j n : Nat} (hd : decode cc pc = .ok (.iaload, 1)) (hs : z_sh[i]? = some (.inl (0, n))) (hj : j < n) (hn : n < 2 ^ 31) (k : Z y cc nL ret d K (pc + 1) lv (.int (h.1 i j) :: st) h) : Z y cc nL ret d K pc lv (.int (nI j) :: .ref i :: st) h := by
  intro p l e s m args below meth c D ad cA A H locs ls cx hP hD hS hl
  have k2 := k p l e s m args below meth c D ad cA A H locs ls cx hP hD hS hl
  have e : (nI j).toNatClampNeg = j := nI_clamp (by omega)
  refine va_iald (D := D) (tys := z_t cA) (cA := cA 0) (n := n) (f := h.1 i) cx.1 cx.2.1 cx.2.2.2.2.2.2.2.2.1 hP i 0 (z_w_at hs) rfl (vp_in_nI hj hn) hd ?_
  rw [e]
  exact k2
theorem Z.bald {i j n : Nat} (hd : decode cc pc = .ok (.baload, 1)) (hs : z_sh[i]? = some (.inl (1, n))) (hj : j < n) (hn : n < 2 ^ 31) (k : Z y cc nL ret d K (pc + 1) lv (.int (h.1 i j) :: st) h) : Z y cc nL ret d K pc lv (.int (nI j) :: .ref i :: st) h := by
  intro p l e s m args below meth c D ad cA A H locs ls cx hP hD hS hl
  have k2 := k p l e s m args below meth c D ad cA A H locs ls cx hP hD hS hl
  have e : (nI j).toNatClampNeg = j := nI_clamp (by omega)
  refine va_bald (D := D) (tys := z_t cA) (cA := cA 1) (n := n) (f := h.1 i) cx.1 cx.2.1 cx.2.2.2.2.2.2.2.2.1 hP i 1 (z_w_at hs) rfl (vp_in_nI hj hn) hd ?_
  rw [e]
  exact k2
theorem Z.zald {i j n : Nat} (hd : decode cc pc = .ok (.baload, 1)) (hs : z_sh[i]? = some (.inl (2, n))) (hj : j < n) (hn : n < 2 ^ 31) (k : Z y cc nL ret d K (pc + 1) lv (.int (h.1 i j) :: st) h) : Z y cc nL ret d K pc lv (.int (nI j) :: .ref i :: st) h := by
  intro p l e s m args below meth c D ad cA A H locs ls cx hP hD hS hl
  have k2 := k p l e s m args below meth c D ad cA A H locs ls cx hP hD hS hl
  have e : (nI j).toNatClampNeg = j := nI_clamp (by omega)
  refine va_zald (D := D) (tys := z_t cA) (cA := cA 2) (n := n) (f := h.1 i) cx.1 cx.2.1 cx.2.2.2.2.2.2.2.2.1 hP i 2 (z_w_at hs) rfl (vp_in_nI hj hn) hd ?_
  rw [e]
  exact k2
theorem Z.iast {i j n : Nat} {x : Int32} (hd : decode cc pc = .ok (.iastore, 1)) (hs : z_sh[i]? = some (.inl (0, n))) (hj : j < n) (hn : n < 2 ^ 31) (k : Z y cc nL ret d K (pc + 1) lv st (z_up h i j x)) : Z y cc nL ret d K pc lv (.int x :: .int (nI j) :: .ref i :: st) h := by
  intro p l e s m args below meth c D ad cA A H locs ls cx hP hD hS hl
  have e1 : (nI j).toNatClampNeg = j := nI_clamp (by omega)
  have e2 : (z_w ad cA h).set i (ad i, .inl (cA 0, n, .inl (upd (h.1 i) j x))) = z_w ad cA (z_up h i j x) := z_w_set hs (by simp [z_e, z_up, va_up]) (fun _ _ hj => z_e_row hj)
  refine va_iast (D := D) (tys := z_t cA) (cA := cA 0) (n := n) (f := h.1 i) cx.1 cx.2.1 cx.2.2.2.2.2.2.2.2.1 hP hD hS i 0 (z_w_at hs) rfl (vp_in_nI hj hn) hd (fun H locs hP hD hS => ?_)
  rw [e1, e2] at hP hD
  exact k p l e s m args below meth c D ad cA A H locs ls cx hP hD hS hl
theorem Z.bast {i j n : Nat} {x : Int32} (hd : decode cc pc = .ok (.bastore, 1)) (hs : z_sh[i]? = some (.inl (1, n))) (hj : j < n) (hn : n < 2 ^ 31) (k : Z y cc nL ret d K (pc + 1) lv st (z_up h i j (vp_nar .byte x))) : Z y cc nL ret d K pc lv (.int x :: .int (nI j) :: .ref i :: st) h := by
  intro p l e s m args below meth c D ad cA A H locs ls cx hP hD hS hl
  have e1 : (nI j).toNatClampNeg = j := nI_clamp (by omega)
  have e2 : (z_w ad cA h).set i (ad i, .inl (cA 1, n, .inl (upd (h.1 i) j (vp_nar .byte x)))) = z_w ad cA (z_up h i j (vp_nar .byte x)) := z_w_set hs (by simp [z_e, z_up, va_up]) (fun _ _ hj => z_e_row hj)
  refine va_bast (D := D) (tys := z_t cA) (cA := cA 1) (n := n) (f := h.1 i) cx.1 cx.2.1 cx.2.2.2.2.2.2.2.2.1 hP hD hS i 1 (z_w_at hs) rfl (vp_in_nI hj hn) hd (fun H locs hP hD hS => ?_)
  rw [e1, e2] at hP hD
  exact k p l e s m args below meth c D ad cA A H locs ls cx hP hD hS hl
theorem Z.zast {i j n : Nat} {x : Int32} (hd : decode cc pc = .ok (.bastore, 1)) (hs : z_sh[i]? = some (.inl (2, n))) (hj : j < n) (hn : n < 2 ^ 31) (k : Z y cc nL ret d K (pc + 1) lv st (z_up h i j (vp_nar .boolean x))) : Z y cc nL ret d K pc lv (.int x :: .int (nI j) :: .ref i :: st) h := by
  intro p l e s m args below meth c D ad cA A H locs ls cx hP hD hS hl
  have e1 : (nI j).toNatClampNeg = j := nI_clamp (by omega)
  have e2 : (z_w ad cA h).set i (ad i, .inl (cA 2, n, .inl (upd (h.1 i) j (vp_nar .boolean x)))) = z_w ad cA (z_up h i j (vp_nar .boolean x)) := z_w_set hs (by simp [z_e, z_up, va_up]) (fun _ _ hj => z_e_row hj)
  refine va_zast (D := D) (tys := z_t cA) (cA := cA 2) (n := n) (f := h.1 i) cx.1 cx.2.1 cx.2.2.2.2.2.2.2.2.1 hP hD hS i 2 (z_w_at hs) rfl (vp_in_nI hj hn) hd (fun H locs hP hD hS => ?_)
  rw [e1, e2] at hP hD
  exact k p l e s m args below meth c D ad cA A H locs ls cx hP hD hS hl
theorem Z.alen {i n t : Nat} (hd : decode cc pc = .ok (.arraylength, 1)) (hs : z_sh[i]? = some (.inl (t, n))) (ht : t < 3) (k : Z y cc nL ret d K (pc + 1) lv (.int (nI n) :: st) h) : Z y cc nL ret d K pc lv (.ref i :: st) h := by
  intro p l e s m args below meth c D ad cA A H locs ls cx hP hD hS hl
  have k2 := k p l e s m args below meth c D ad cA A H locs ls cx hP hD hS hl
  have hK := cx.2.2.2.2.2.2.2.2.1
  match t, ht with
  | 0, _ => exact va_alen (D := D) (tys := z_t cA) (cA := cA 0) (x := (n, .inl (h.1 i))) cx.1 cx.2.1 hK hP i 0 (z_w_at hs) rfl rfl hd k2
  | 1, _ => exact va_alen (D := D) (tys := z_t cA) (cA := cA 1) (x := (n, .inl (h.1 i))) cx.1 cx.2.1 hK hP i 1 (z_w_at hs) rfl rfl hd k2
  | 2, _ => exact va_alen (D := D) (tys := z_t cA) (cA := cA 2) (x := (n, .inl (h.1 i))) cx.1 cx.2.1 hK hP i 2 (z_w_at hs) rfl rfl hd k2
/-- returns -/
theorem Z.iret {v : Int32} {ty : FieldType} (hd : decode cc pc = .ok (.ireturn, 1)) (hr : ret = some ty) (hn : narrow ty (.int v) = .int v) (hk : K (some (.int v)) h) : Z y cc nL ret d K pc lv [.int v] h := by
  intro p l e s m args below meth c D ad cA A H locs ls cx hP hD hS hl
  have hlocks := cx.2.2.2.2.1
  exact W.zret (ty := ty) cx.1 cx.2.1 (cx.2.2.2.1.trans hr) hn (fun t ht hW => ⟨⟨some (.int v), h, rfl, hk, by rw [ht]; exact hP, hD⟩, hS.F ht⟩) hS.2.2 hd hlocks
theorem Z.lret {v : Int64} (hd : decode cc pc = .ok (.lreturn, 1)) (hr : ret = some .long) (hk : K (some (.long v)) h) : Z y cc nL ret d K pc lv [.long v] h := by
  intro p l e s m args below meth c D ad cA A H locs ls cx hP hD hS hl
  have hlocks := cx.2.2.2.2.1
  exact W.lret cx.1 cx.2.1 (cx.2.2.2.1.trans hr) (fun t ht hW => ⟨⟨some (.long v), h, rfl, hk, by rw [ht]; exact hP, hD⟩, hS.F ht⟩) hS.2.2 hd hlocks
theorem Z.vret (hd : decode cc pc = .ok (.return_, 1)) (hr : ret = none) (hk : K none h) : Z y cc nL ret d K pc lv [] h := by
  intro p l e s m args below meth c D ad cA A H locs ls cx hP hD hS hl
  have hlocks := cx.2.2.2.2.1
  exact W.vret cx.1 cx.2.1 (cx.2.2.2.1.trans hr) (fun t ht hW => ⟨⟨none, h, rfl, hk, by rw [ht]; exact hP, hD⟩, hS.F ht⟩) hS.2.2 hd hlocks
/-- behind a call -/
theorem z_call {p : Program} {l : Launch} {e : Env} {R : Room} {s : State} {m : MethodId} {args : Array Value} {below : List Frame} {meth : Method} {c : Code} {H : Heap} {locs : List Loc} {cells slots : Nat} {Q : State → Prop} {ls : Array Slot} {st0 rest : List Value} {D : va_G} {ad : Nat → Nat} {cA : Nat → ClassId} {A A0 : Nat → Prop} {K' : Option Value → hp → Prop} {a : Array Value} {H0 : Heap} {free : Addr → Prop}
    (hr : va_Run p l e R s m args below meth c H locs cells slots 0 0 (F0 m pc ls st0) rest (z_Q D ad cA A K' a) free) (hS : va_S A0 H0 H locs) (hA : ∀ q, A q → A0 q) (hf : ∀ q, free q → A0 q)
    (kk : ∀ (r : Option Value) (h' : hp) (H1 : Heap) (locs1 : List Loc), K' r h' → va_P D vwCl (z_w ad cA h') H1 → va_D A0 (z_w ad cA h') → va_S A0 H0 H1 locs1 → (∀ q : Nat, q < H.size → ¬ A q → H1[q]? = H[q]?) → W p l e R s m args below meth c H1 locs1 cells slots Q (F0 m (pc + 3) ls ((r.map (z_v ad)).toList ++ rest))) : W p l e R s m args below meth c H locs cells slots Q (F0 m pc ls st0) := by
  intro T hT X
  obtain ⟨v, st₀, t, T', L, h0, X', hL, e1, e2, ⟨⟨r, h', hv, hk, hP1, hD1⟩, hz, hq⟩, st⟩ := hr T hT X
  cases hv
  rw [h0] at hz hq
  obtain ⟨t2, a1, b1⟩ := kk r h' T'.heap (locs ++ L) hk (by rw [e1]; exact hP1) (hD1.weaken (fun _ q _ z => hA q.1 z))
    ⟨Nat.le_trans hS.1 (by rw [e1]; exact hz), fun q h1 h2 => by rw [e1, hq q (Nat.lt_of_lt_of_le h1 hS.1) (fun z => h2 (hA q z))]; exact hS.2.1 q h1 h2, fun q hq => by
      rcases List.mem_append.mp hq with h | h
      · exact hS.2.2 q h
      · exact hf _ (hL q h)⟩ (fun q h1 h2 => by rw [e1]; exact hq q h1 h2) T' rfl X'
  exact ⟨t2, st t2 a1, b1⟩
theorem z_blind {D : va_G} {ad : Nat → Nat} {cA : Nat → ClassId} {av : List Value} {sz : Nat} {B : Nat → Prop} : FrameBlind (va_Pc av (fun U => U.heap.size = sz ∧ va_P D vwCl (z_w ad cA h) U.heap ∧ va_K D vwCl (z_t cA) U ∧ va_D (fun _ => True) (z_w ad cA h) ∧ z_X ad B U U.heap)) := by
  intro a U g mk q
  obtain ⟨q0, q1, qP, qK, qD, qX⟩ := q
  exact ⟨q0, q1, qP, va_K.moved (u := U) (U := U.calling g mk a) (Vm.Alike.refl U.vm) qK, qD, qX.same (U := U.calling g mk a) rfl⟩
theorem z_stk (ad : Nat → Nat) (As rest : List Value) : (As.reverse ++ rest).map (z_v ad) = (As.map (z_v ad)).reverse ++ rest.map (z_v ad) := by
  rw [List.map_append, List.map_reverse]
theorem z_cats (ad : Nat → Nat) : ∀ rest : List Value, ((rest.map (z_v ad)).map fun v => v.category) = rest.map fun v => v.category
  | [] => rfl
  | a :: t => by
    have ih := z_cats ad t
    simp only [List.map_cons, z_v_cat, List.cons.injEq, true_and] at ih ⊢
    exact ih
theorem z_ret (ad : Nat → Nat) (r : Option Value) (rest : List Value) : (r.map (z_v ad)).toList ++ rest.map (z_v ad) = (r.toList ++ rest).map (z_v ad) := by
  cases r <;> rfl
theorem z_cons {x : Cond} (w4 : x ∈ z_tb) : ∀ w ∈ x :: z_tb, w ∈ z_tb := fun w hw => (List.mem_cons.mp hw).elim (fun e => e ▸ w4) id
theorem z_room {d d' nL' : Nat} (h1 : d' + 1 ≤ d) (h2 : nL' ≤ 19) : (z_rm d').frames + 1 ≤ (z_rm d).frames ∧ 8 + (nL' + 11) + (z_rm d').locals ≤ (z_rm d).locals := by
  refine ⟨h1, ?_⟩
  show 8 + (nL' + 11) + 38 * d' ≤ 38 * d
  omega
theorem z_free {D : va_G} {ad : Nat → Nat} {cA : Nat → ClassId} {A : Nat → Prop} {s : State} {H : Heap} {locs : List Loc} (hA : ∀ q, s.heap.size ≤ q → A q) (hD : va_D A (z_w ad cA h)) (hS : va_S A s.heap H locs) : ∀ q, va_A (z_w ad cA h) H.size q → A q := by
  intro q hq
  rcases hq with ⟨k, e, hk⟩ | hq
  · exact hD.2 k (q, e) hk
  · exact hA q (Nat.le_trans hS.1 hq)
theorem Z.callV {y' : MethodName} {cc' : ByteArray} {nL' : Nat} {ret' : Option FieldType} {d' : Nat} {K' : Option Value → hp → Prop} {b idx n ci N : Nat} {As rest : List Value} {fs : List Nat} {T : u_T} (hd : decode cc pc = .ok (.invokevirtual idx, 3)) (hc : Cn y' cc' nL' ret' d' (.ref b :: As) h K') (hlk : Cond.methodLink y.cls idx y' ∈ z_tb) (hy : z_yv y' cc' nL' ret' n) (hs : z_sh[b]? = some (.inr (ci, fs))) (hci : vwCl[ci]? = some (y'.cls, T, N)) (hn : As.length = n) (hst : st = As.reverse ++ .ref b :: rest) (hdp : d' + 1 ≤ d) (hnl : nL' ≤ 19) (hrest : (rest.map fun v => v.category).sum ≤ 8)
    (k : ∀ r h', K' r h' → Z y cc nL ret d K (pc + 3) lv (r.toList ++ rest) h') : Z y cc nL ret d K pc lv st h := by
  subst hst
  intro p l e s m args below meth c D ad cA A H locs ls cx hP hD hS hl
  obtain ⟨hx, hb, hml, hr, hlocks, hown, hts, hA, hK, hX⟩ := id cx
  obtain ⟨w1, w2, w3, w4, w5, w6, w7⟩ := hy
  have hFc : ∀ q, va_A (z_w ad cA h) H.size q → A q := z_free (D := D) hA hD hS
  have hM := hc l D ad cA H.size
  have hrun := va_runV (R := z_rm d) (cells := 0) (slots := 0) (locs := locs) (below := below) (meth := meth) (e := e) (H := H) (C := y'.cls) (b := ad b) (As := As.map (z_v ad)) (rest := rest.map (z_v ad)) (n := n) (index := idx) (g := F0 m pc ls ((As.reverse ++ .ref b :: rest).map (z_v ad))) ⟨hx, hb, hml, hown, hts⟩ hM
    ⟨callB_of n hts (z_goodIn (z_cons w4)) rfl rfl rfl (hts _ w3) (hts _ hlk) ⟨w5, w6, w7⟩ (z_room hdp hnl), hts _ w1, hts _ w2⟩
    ⟨z_blind, va_recv hK hP hci (z_w_at hs), fun U hU hW => ⟨rfl, by rw [hU], by rw [hU]; exact hP, hK.moved hW.alike, hD.weaken (fun _ _ _ _ => trivial), by rw [hU]; exact hX.go hW hS.2.1 hFc⟩⟩
    rfl (by rw [List.length_map]; exact hn) hl.1 (by rw [z_stk]; rfl) (lv_room (by rw [z_cats]; exact hrest)) hd ⟨Nat.zero_le _, Nat.zero_le _⟩
  refine z_call hrun hS hFc hFc (fun r h' H1 locs1 hk hP hD hS _ => ?_)
  rw [z_ret]
  exact k r h' hk p l e s m args below meth c D ad cA A H1 locs1 ls cx hP hD hS hl
theorem Z.callS {y' : MethodName} {cc' : ByteArray} {nL' : Nat} {ret' : Option FieldType} {d' : Nat} {K' : Option Value → hp → Prop} {idx n : Nat} {As rest : List Value} (hd : decode cc pc = .ok (.invokestatic idx, 3)) (hc : Cn y' cc' nL' ret' d' As h K') (hlk : Cond.methodLink y.cls idx y' ∈ z_tb) (hy : z_ys y' cc' nL' ret' n) (hn : As.length = n) (hst : st = As.reverse ++ rest) (hdp : d' + 1 ≤ d) (hnl : nL' ≤ 19) (hrest : (rest.map fun v => v.category).sum ≤ 8)
    (k : ∀ r h', K' r h' → Z y cc nL ret d K (pc + 3) lv (r.toList ++ rest) h') : Z y cc nL ret d K pc lv st h := by
  subst hst
  intro p l e s m args below meth c D ad cA A H locs ls cx hP hD hS hl
  obtain ⟨hx, hb, hml, hr, hlocks, hown, hts, hA, hK, hX⟩ := id cx
  obtain ⟨w1, w3, w4, w5, w6, w7⟩ := hy
  have hFc : ∀ q, va_A (z_w ad cA h) H.size q → A q := z_free (D := D) hA hD hS
  have hM := hc l D ad cA H.size
  have hrun := va_runS (R := z_rm d) (cells := 0) (slots := 0) (locs := locs) (below := below) (meth := meth) (e := e) (H := H) (As := As.map (z_v ad)) (rest := rest.map (z_v ad)) (n := n) (index := idx) (g := F0 m pc ls ((As.reverse ++ rest).map (z_v ad))) ⟨hx, hb, hml, hown, hts⟩ hM
    ⟨callB_of n hts (z_goodIn (z_cons w4)) rfl rfl rfl (hts _ w3) (hts _ hlk) ⟨w5, w6, w7⟩ (z_room hdp hnl), hts _ w1⟩
    ⟨z_blind, fun U hU hW => ⟨rfl, by rw [hU], by rw [hU]; exact hP, hK.moved hW.alike, hD.weaken (fun _ _ _ _ => trivial), by rw [hU]; exact hX.go hW hS.2.1 hFc⟩⟩
    rfl (by rw [List.length_map]; exact hn) hl.1 (z_stk ad As rest) (lv_room (by rw [z_cats]; exact hrest)) hd ⟨Nat.zero_le _, Nat.zero_le _⟩
  refine z_call hrun hS hFc hFc (fun r h' H1 locs1 hk hP hD hS _ => ?_)
  rw [z_ret]
  exact k r h' hk p l e s m args below meth c D ad cA A H1 locs1 ls cx hP hD hS hl
/-- isAmong, called from a nest mate -/
theorem Z.callN {cc' : ByteArray} {nL' : Nat} {ret' : Option FieldType} {d' : Nat} {K' : Option Value → hp → Prop} {idx n : Nat} {As rest : List Value} (hd : decode cc pc = .ok (.invokestatic idx, 3)) (hc : Cn yX8_isAmong cc' nL' ret' d' As h K') (hlk : (y.cls = RX6 ∧ idx = 63) ∨ (y.cls = RX2 ∧ idx = 29) ∨ (y.cls = RX0 ∧ idx = 41)) (hy : z_ys yX8_isAmong cc' nL' ret' n) (hn : As.length = n) (hst : st = As.reverse ++ rest) (hdp : d' + 1 ≤ d) (hnl : nL' ≤ 19) (hrest : (rest.map fun v => v.category).sum ≤ 8)
    (k : ∀ r h', K' r h' → Z y cc nL ret d K (pc + 3) lv (r.toList ++ rest) h') : Z y cc nL ret d K pc lv st h := by
  subst hst
  intro p l e s m args below meth c D ad cA A H locs ls cx hP hD hS hl
  obtain ⟨hx, hb, hml, hr, hlocks, hown, hts, hA, hK, hX⟩ := id cx
  obtain ⟨w1, w3, w4, w5, w6, w7⟩ := hy
  have hNw : va_Nw (.methodLinkNest y.cls idx yX8_isAmong RX8) s := by
    rcases hlk with ⟨e1, e2⟩ | ⟨e1, e2⟩ | ⟨e1, e2⟩
    · rw [e1, e2]; exact hX.1
    · rw [e1, e2]; exact hX.2.1
    · rw [e1, e2]; exact hX.2.2.1
  have hFc : ∀ q, va_A (z_w ad cA h) H.size q → A q := z_free (D := D) hA hD hS
  have hM := hc l D ad cA H.size
  have hrun := va_runSN (R := z_rm d) (cells := 0) (slots := 0) (locs := locs) (below := below) (meth := meth) (e := e) (H := H) (host := RX8) (As := As.map (z_v ad)) (rest := rest.map (z_v ad)) (n := n) (index := idx) (g := F0 m pc ls ((As.reverse ++ rest).map (z_v ad))) ⟨hx, hb, hml, hown, hts⟩ hM
    ⟨va_cnB n hts (z_goodIn (z_cons w4)) rfl rfl rfl hNw (hts _ w3) ⟨w5, w6, w7⟩ (z_room hdp hnl), hts _ w1, trivial⟩
    ⟨z_blind, fun U hU hW => ⟨rfl, by rw [hU], by rw [hU]; exact hP, hK.moved hW.alike, hD.weaken (fun _ _ _ _ => trivial), by rw [hU]; exact hX.go hW hS.2.1 hFc⟩⟩
    rfl (by rw [List.length_map]; exact hn) hl.1 (z_stk ad As rest) (lv_room (by rw [z_cats]; exact hrest)) hd ⟨Nat.zero_le _, Nat.zero_le _⟩
  refine z_call hrun hS hFc hFc (fun r h' H1 locs1 hk hP hD hS _ => ?_)
  rw [z_ret]
  exact k r h' hk p l e s m args below meth c D ad cA A H1 locs1 ls cx hP hD hS hl
end ZR
/-- a known answer and a known heap -/
def z_eq (r : Option Value) (h1 : hp) : Option Value → hp → Prop := fun r' h' => r' = r ∧ h' = h1
theorem z_eq.k {P : Option Value → hp → Prop} {r : Option Value} {h1 : hp} (k : P r h1) : ∀ r' h', z_eq r h1 r' h' → P r' h' := by
  rintro _ _ ⟨rfl, rfl⟩
  exact k
