def at_X1 (D : va_G) (cA : Nat → ClassId) (A : Nat → Prop) (h0 : Nat) (u : Unit) (t : State) : Prop := match u with
  | _ => va_P D vwCl [(h0, .inr (1, [.int 0]))] t.heap ∧ va_K D vwCl (z_t cA) t ∧ va_D A [(h0, .inr (1, [.int 0]))]
set_option maxRecDepth 100000 in
set_option maxHeartbeats 4000000 in
theorem c_X1_init (l : Launch) (D : va_G) (cA : Nat → ClassId) (h0 sz : Nat) : Met l yX1_init (.code yX1_init cX1_init 1 none :: z_tb) ({ frames := 1, cells := 0, slots := 0, locals := 12 }) (va_Pc [.ref h0] (fun U => U.heap.size = sz ∧ va_P D vwCl [(h0, .inr (1, [.int 0]))] U.heap ∧ va_K D vwCl (z_t cA) U ∧ va_D (fun _ => True) [(h0, .inr (1, [.int 0]))])) (va_Qv (fun _ : Unit => True) (at_X1 D cA (va_A [(h0, .inr (1, [.int 0]))] sz) h0) (va_A [(h0, .inr (1, [.int 0]))] sz)) 0 0 (va_A [(h0, .inr (1, [.int 0]))] sz) := by
  refine Met.ofW (cc := cX1_init) (maxL := 1) (ret := none) (by decide) rfl ?_
  intro p e s m args below meth c s₁ B hml hv
  obtain ⟨rfl, hsz, hP, hK, hD0⟩ := hv
  have hx := B.exec
  have hb := B.bytes
  have hr := B.returns
  have hts0 := atoms_spec (ws := .code yX1_init cX1_init 1 none :: z_tb) B.pre
  have hts : ∀ w ∈ z_tb, w.before _ s = true := fun w hw => hts0 w (List.mem_cons_of_mem _ hw)
  have hown : s.vm.findClass RX1 = some m.cls := findClass_of_methodNamed B.named
  have hin : meth.name = "<init>" := (name_of_methodNamed B.named B.method).1
  subst hsz
  have hD := hD0.self (sz := s.heap.size)
  generalize hAe : va_A [(h0, .inr (1, [.int 0]))] s.heap.size = A at hD ⊢
  have hA : ∀ q : Nat, s.heap.size ≤ q → A q := fun q h => by rw [← hAe]; exact Or.inr h
  have hS : va_S A s.heap s.heap [] := va_S.rf
  have hl := lv_entry ([.ref h0]) (n := 1) (Nat.le_of_ble_eq_true rfl)
  rw [lg_entry_eq]
  generalize (lg_sl ([.ref h0]) ++ List.replicate (1 - (lg_sl ([.ref h0])).length) Slot.unset).toArray = ls at hl ⊢
  have hl : lv_has ls 1 [(0, .ref h0)] := hl
  refine lv_aload_n hx hb dX1_init_0 rfl (lv_at hl 0 rfl) ?_
  refine W.objInit hx hb hown (hts _ zo_X1) (hts _ zo_i) (hts _ zo_c) rfl (by rw [hml]; exact hl.1) rfl dX1_init_1 (Nat.le_of_ble_eq_true rfl) (Nat.le_of_ble_eq_true rfl) ?_
  refine W.eq (g2 := F0 m 4 ls []) rfl ?_
  exact W.vret hx hb hr (fun t ht hW => ⟨⟨(), rfl, trivial, by rw [ht]; exact hP, va_K.moved hW.alike hK, hD⟩, hS.F ht⟩) hS.2.2 dX1_init_4
def at_X4 (D : va_G) (cA : Nat → ClassId) (A : Nat → Prop) (h0 : Nat) (u : Nat) (t : State) : Prop := match u with
  | (q1) => va_P D vwCl [(h0, .inr (3, [.ref q1, .int 0])), (q1, .inl (cA 0, 36, .inl (fun _ => 0)))] t.heap ∧ va_K D vwCl (z_t cA) t ∧ va_D A [(h0, .inr (3, [.ref q1, .int 0])), (q1, .inl (cA 0, 36, .inl (fun _ => 0)))]
set_option maxRecDepth 100000 in
set_option maxHeartbeats 4000000 in
theorem c_X4_init (l : Launch) (D : va_G) (cA : Nat → ClassId) (h0 sz : Nat) : Met l yX4_init (.code yX4_init cX4_init 1 none :: z_tb) ({ frames := 1, cells := 1, slots := 36, locals := 12 }) (va_Pc [.ref h0] (fun U => U.heap.size = sz ∧ va_P D vwCl [(h0, .inr (3, [.null, .int 0]))] U.heap ∧ va_K D vwCl (z_t cA) U ∧ va_D (fun _ => True) [(h0, .inr (3, [.null, .int 0]))])) (va_Qv (fun _ : Nat => True) (at_X4 D cA (va_A [(h0, .inr (3, [.null, .int 0]))] sz) h0) (va_A [(h0, .inr (3, [.null, .int 0]))] sz)) 1 36 (va_A [(h0, .inr (3, [.null, .int 0]))] sz) := by
  refine Met.ofW (cc := cX4_init) (maxL := 1) (ret := none) (by decide) rfl ?_
  intro p e s m args below meth c s₁ B hml hv
  obtain ⟨rfl, hsz, hP, hK, hD0⟩ := hv
  have hx := B.exec
  have hb := B.bytes
  have hr := B.returns
  have hts0 := atoms_spec (ws := .code yX4_init cX4_init 1 none :: z_tb) B.pre
  have hts : ∀ w ∈ z_tb, w.before _ s = true := fun w hw => hts0 w (List.mem_cons_of_mem _ hw)
  have hown : s.vm.findClass RX4 = some m.cls := findClass_of_methodNamed B.named
  have hin : meth.name = "<init>" := (name_of_methodNamed B.named B.method).1
  subst hsz
  have hD := hD0.self (sz := s.heap.size)
  generalize hAe : va_A [(h0, .inr (3, [.null, .int 0]))] s.heap.size = A at hD ⊢
  have hA : ∀ q : Nat, s.heap.size ≤ q → A q := fun q h => by rw [← hAe]; exact Or.inr h
  have hS : va_S A s.heap s.heap [] := va_S.rf
  have hl := lv_entry ([.ref h0]) (n := 1) (Nat.le_of_ble_eq_true rfl)
  rw [lg_entry_eq]
  generalize (lg_sl ([.ref h0]) ++ List.replicate (1 - (lg_sl ([.ref h0])).length) Slot.unset).toArray = ls at hl ⊢
  have hl : lv_has ls 1 [(0, .ref h0)] := hl
  refine lv_aload_n hx hb dX4_init_0 rfl (lv_at hl 0 rfl) ?_
  refine W.objInit hx hb hown (hts _ zo_X4) (hts _ zo_i) (hts _ zo_c) rfl (by rw [hml]; exact hl.1) rfl dX4_init_1 (Nat.le_of_ble_eq_true rfl) (Nat.le_of_ble_eq_true rfl) ?_
  refine W.eq (g2 := F0 m 4 ls []) rfl ?_
  refine lv_aload_n hx hb dX4_init_4 rfl (lv_at hl 0 rfl) ?_
  refine lv_bipush (v := 36) hx hb dX4_init_5 (by decide) ?_
  refine va_newa (atype := .int) (ty := .int) (a0 := (36, .inl (fun _ => 0))) hx hb (hts _ za_int) rfl hK hP hD hS hA (fun _ => rfl) (by decide) (by decide) (by decide) (Nat.le_of_ble_eq_true rfl) (Nat.le_of_ble_eq_true rfl) dX4_init_7 (fun q1 cB H hK1 hP hD hS => ?_)
  have hcB : cB = cA 0 := Option.some.inj ((show s.vm.findClass ("[" ++ FieldType.int.toString) = some cB from (hK1.2 3 (cB, .int) rfl).2).symm.trans (hK.2 0 (cA 0, .int) rfl).2)
  subst hcB
  clear hK1
  have hP : va_P D vwCl [(h0, .inr (3, [.null, .int 0])), (q1, .inl (cA 0, 36, .inl (fun _ => 0)))] H := hP
  have hD : va_D A [(h0, .inr (3, [.null, .int 0])), (q1, .inl (cA 0, 36, .inl (fun _ => 0)))] := hD
  refine va_putF (D := D) (ci := 3) (v := .ref q1) (ty := tyX4 0) (C := RX4) (T := TX4) (N := 2) hx hb hts z_X4 tyX4 tyX4_ok nmX4 hown hK hP hD hS 0 rfl rfl 0 (by decide) (hts _ (z_in 85 (by decide +kernel) (by decide +kernel))) (fun _ h9 => h9) rfl hin rfl (tyX4_ok 0 (by decide)) rfl rfl (Nat.le_of_ble_eq_true rfl) dX4_init_9 (fun H locs hP hD hS => ?_)
  have hP : va_P D vwCl [(h0, .inr (3, [.ref q1, .int 0])), (q1, .inl (cA 0, 36, .inl (fun _ => 0)))] H := hP
  have hD : va_D A [(h0, .inr (3, [.ref q1, .int 0])), (q1, .inl (cA 0, 36, .inl (fun _ => 0)))] := hD
  exact W.vret hx hb hr (fun t ht hW => ⟨⟨(q1), rfl, trivial, by rw [ht]; exact hP, va_K.moved hW.alike hK, hD⟩, hS.F ht⟩) hS.2.2 dX4_init_12
def at_X0 (D : va_G) (cA : Nat → ClassId) (A : Nat → Prop) (h0 : Nat) (u : Nat) (t : State) : Prop := match u with
  | (q1) => va_P D vwCl [(h0, .inr (0, [.ref q1, .int 0, .int 0])), (q1, .inl (cA 0, 8, .inl (fun _ => 0)))] t.heap ∧ va_K D vwCl (z_t cA) t ∧ va_D A [(h0, .inr (0, [.ref q1, .int 0, .int 0])), (q1, .inl (cA 0, 8, .inl (fun _ => 0)))]
set_option maxRecDepth 100000 in
set_option maxHeartbeats 4000000 in
theorem c_X0_init (l : Launch) (D : va_G) (cA : Nat → ClassId) (h0 sz : Nat) : Met l yX0_init (.code yX0_init cX0_init 1 none :: z_tb) ({ frames := 1, cells := 1, slots := 8, locals := 12 }) (va_Pc [.ref h0] (fun U => U.heap.size = sz ∧ va_P D vwCl [(h0, .inr (0, [.null, .int 0, .int 0]))] U.heap ∧ va_K D vwCl (z_t cA) U ∧ va_D (fun _ => True) [(h0, .inr (0, [.null, .int 0, .int 0]))])) (va_Qv (fun _ : Nat => True) (at_X0 D cA (va_A [(h0, .inr (0, [.null, .int 0, .int 0]))] sz) h0) (va_A [(h0, .inr (0, [.null, .int 0, .int 0]))] sz)) 1 8 (va_A [(h0, .inr (0, [.null, .int 0, .int 0]))] sz) := by
  refine Met.ofW (cc := cX0_init) (maxL := 1) (ret := none) (by decide) rfl ?_
  intro p e s m args below meth c s₁ B hml hv
  obtain ⟨rfl, hsz, hP, hK, hD0⟩ := hv
  have hx := B.exec
  have hb := B.bytes
  have hr := B.returns
  have hts0 := atoms_spec (ws := .code yX0_init cX0_init 1 none :: z_tb) B.pre
  have hts : ∀ w ∈ z_tb, w.before _ s = true := fun w hw => hts0 w (List.mem_cons_of_mem _ hw)
  have hown : s.vm.findClass RX0 = some m.cls := findClass_of_methodNamed B.named
  have hin : meth.name = "<init>" := (name_of_methodNamed B.named B.method).1
  subst hsz
  have hD := hD0.self (sz := s.heap.size)
  generalize hAe : va_A [(h0, .inr (0, [.null, .int 0, .int 0]))] s.heap.size = A at hD ⊢
  have hA : ∀ q : Nat, s.heap.size ≤ q → A q := fun q h => by rw [← hAe]; exact Or.inr h
  have hS : va_S A s.heap s.heap [] := va_S.rf
  have hl := lv_entry ([.ref h0]) (n := 1) (Nat.le_of_ble_eq_true rfl)
  rw [lg_entry_eq]
  generalize (lg_sl ([.ref h0]) ++ List.replicate (1 - (lg_sl ([.ref h0])).length) Slot.unset).toArray = ls at hl ⊢
  have hl : lv_has ls 1 [(0, .ref h0)] := hl
  refine lv_aload_n hx hb dX0_init_0 rfl (lv_at hl 0 rfl) ?_
  refine W.objInit hx hb hown (hts _ zo_X0) (hts _ zo_i) (hts _ zo_c) rfl (by rw [hml]; exact hl.1) rfl dX0_init_1 (Nat.le_of_ble_eq_true rfl) (Nat.le_of_ble_eq_true rfl) ?_
  refine W.eq (g2 := F0 m 4 ls []) rfl ?_
  refine lv_aload_n hx hb dX0_init_4 rfl (lv_at hl 0 rfl) ?_
  refine lv_bipush (v := 8) hx hb dX0_init_5 (by decide) ?_
  refine va_newa (atype := .int) (ty := .int) (a0 := (8, .inl (fun _ => 0))) hx hb (hts _ za_int) rfl hK hP hD hS hA (fun _ => rfl) (by decide) (by decide) (by decide) (Nat.le_of_ble_eq_true rfl) (Nat.le_of_ble_eq_true rfl) dX0_init_7 (fun q1 cB H hK1 hP hD hS => ?_)
  have hcB : cB = cA 0 := Option.some.inj ((show s.vm.findClass ("[" ++ FieldType.int.toString) = some cB from (hK1.2 3 (cB, .int) rfl).2).symm.trans (hK.2 0 (cA 0, .int) rfl).2)
  subst hcB
  clear hK1
  have hP : va_P D vwCl [(h0, .inr (0, [.null, .int 0, .int 0])), (q1, .inl (cA 0, 8, .inl (fun _ => 0)))] H := hP
  have hD : va_D A [(h0, .inr (0, [.null, .int 0, .int 0])), (q1, .inl (cA 0, 8, .inl (fun _ => 0)))] := hD
  refine va_putF (D := D) (ci := 0) (v := .ref q1) (ty := tyX0 0) (C := RX0) (T := TX0) (N := 3) hx hb hts z_X0 tyX0 tyX0_ok nmX0 hown hK hP hD hS 0 rfl rfl 0 (by decide) (hts _ (z_in 175 (by decide +kernel) (by decide +kernel))) (fun _ h9 => h9) rfl hin rfl (tyX0_ok 0 (by decide)) rfl rfl (Nat.le_of_ble_eq_true rfl) dX0_init_9 (fun H locs hP hD hS => ?_)
  have hP : va_P D vwCl [(h0, .inr (0, [.ref q1, .int 0, .int 0])), (q1, .inl (cA 0, 8, .inl (fun _ => 0)))] H := hP
  have hD : va_D A [(h0, .inr (0, [.ref q1, .int 0, .int 0])), (q1, .inl (cA 0, 8, .inl (fun _ => 0)))] := hD
  exact W.vret hx hb hr (fun t ht hW => ⟨⟨(q1), rfl, trivial, by rw [ht]; exact hP, va_K.moved hW.alike hK, hD⟩, hS.F ht⟩) hS.2.2 dX0_init_12
def at_X2 (D : va_G) (cA : Nat → ClassId) (A : Nat → Prop) (h0 : Nat) (u : Nat) (t : State) : Prop := match u with
  | (q1) => va_P D vwCl [(h0, .inr (2, [.ref q1])), (q1, .inl (cA 0, 8, .inl (fun _ => 0)))] t.heap ∧ va_K D vwCl (z_t cA) t ∧ va_D A [(h0, .inr (2, [.ref q1])), (q1, .inl (cA 0, 8, .inl (fun _ => 0)))]
set_option maxRecDepth 100000 in
set_option maxHeartbeats 4000000 in
theorem c_X2_init (l : Launch) (D : va_G) (cA : Nat → ClassId) (h0 sz : Nat) : Met l yX2_init (.code yX2_init cX2_init 1 none :: z_tb) ({ frames := 1, cells := 1, slots := 8, locals := 12 }) (va_Pc [.ref h0] (fun U => U.heap.size = sz ∧ va_P D vwCl [(h0, .inr (2, [.null]))] U.heap ∧ va_K D vwCl (z_t cA) U ∧ va_D (fun _ => True) [(h0, .inr (2, [.null]))])) (va_Qv (fun _ : Nat => True) (at_X2 D cA (va_A [(h0, .inr (2, [.null]))] sz) h0) (va_A [(h0, .inr (2, [.null]))] sz)) 1 8 (va_A [(h0, .inr (2, [.null]))] sz) := by
  refine Met.ofW (cc := cX2_init) (maxL := 1) (ret := none) (by decide) rfl ?_
  intro p e s m args below meth c s₁ B hml hv
  obtain ⟨rfl, hsz, hP, hK, hD0⟩ := hv
  have hx := B.exec
  have hb := B.bytes
  have hr := B.returns
  have hts0 := atoms_spec (ws := .code yX2_init cX2_init 1 none :: z_tb) B.pre
  have hts : ∀ w ∈ z_tb, w.before _ s = true := fun w hw => hts0 w (List.mem_cons_of_mem _ hw)
  have hown : s.vm.findClass RX2 = some m.cls := findClass_of_methodNamed B.named
  have hin : meth.name = "<init>" := (name_of_methodNamed B.named B.method).1
  subst hsz
  have hD := hD0.self (sz := s.heap.size)
  generalize hAe : va_A [(h0, .inr (2, [.null]))] s.heap.size = A at hD ⊢
  have hA : ∀ q : Nat, s.heap.size ≤ q → A q := fun q h => by rw [← hAe]; exact Or.inr h
  have hS : va_S A s.heap s.heap [] := va_S.rf
  have hl := lv_entry ([.ref h0]) (n := 1) (Nat.le_of_ble_eq_true rfl)
  rw [lg_entry_eq]
  generalize (lg_sl ([.ref h0]) ++ List.replicate (1 - (lg_sl ([.ref h0])).length) Slot.unset).toArray = ls at hl ⊢
  have hl : lv_has ls 1 [(0, .ref h0)] := hl
  refine lv_aload_n hx hb dX2_init_0 rfl (lv_at hl 0 rfl) ?_
  refine W.objInit hx hb hown (hts _ zo_X2) (hts _ zo_i) (hts _ zo_c) rfl (by rw [hml]; exact hl.1) rfl dX2_init_1 (Nat.le_of_ble_eq_true rfl) (Nat.le_of_ble_eq_true rfl) ?_
  refine W.eq (g2 := F0 m 4 ls []) rfl ?_
  refine lv_aload_n hx hb dX2_init_4 rfl (lv_at hl 0 rfl) ?_
  refine lv_bipush (v := 8) hx hb dX2_init_5 (by decide) ?_
  refine va_newa (atype := .int) (ty := .int) (a0 := (8, .inl (fun _ => 0))) hx hb (hts _ za_int) rfl hK hP hD hS hA (fun _ => rfl) (by decide) (by decide) (by decide) (Nat.le_of_ble_eq_true rfl) (Nat.le_of_ble_eq_true rfl) dX2_init_7 (fun q1 cB H hK1 hP hD hS => ?_)
  have hcB : cB = cA 0 := Option.some.inj ((show s.vm.findClass ("[" ++ FieldType.int.toString) = some cB from (hK1.2 3 (cB, .int) rfl).2).symm.trans (hK.2 0 (cA 0, .int) rfl).2)
  subst hcB
  clear hK1
  have hP : va_P D vwCl [(h0, .inr (2, [.null])), (q1, .inl (cA 0, 8, .inl (fun _ => 0)))] H := hP
  have hD : va_D A [(h0, .inr (2, [.null])), (q1, .inl (cA 0, 8, .inl (fun _ => 0)))] := hD
  refine va_putF (D := D) (ci := 2) (v := .ref q1) (ty := tyX2 0) (C := RX2) (T := TX2) (N := 1) hx hb hts z_X2 tyX2 tyX2_ok nmX2 hown hK hP hD hS 0 rfl rfl 0 (by decide) (hts _ (z_in 193 (by decide +kernel) (by decide +kernel))) (fun _ h9 => h9) rfl hin rfl (tyX2_ok 0 (by decide)) rfl rfl (Nat.le_of_ble_eq_true rfl) dX2_init_9 (fun H locs hP hD hS => ?_)
  have hP : va_P D vwCl [(h0, .inr (2, [.ref q1])), (q1, .inl (cA 0, 8, .inl (fun _ => 0)))] H := hP
  have hD : va_D A [(h0, .inr (2, [.ref q1])), (q1, .inl (cA 0, 8, .inl (fun _ => 0)))] := hD
  exact W.vret hx hb hr (fun t ht hW => ⟨⟨(q1), rfl, trivial, by rw [ht]; exact hP, va_K.moved hW.alike hK, hD⟩, hS.F ht⟩) hS.2.2 dX2_init_12
def at_X5 (D : va_G) (cA : Nat → ClassId) (A : Nat → Prop) (h0 : Nat) (u : Nat) (t : State) : Prop := match u with
  | (q1) => va_P D vwCl [(h0, .inr (4, [.ref q1, .int 0])), (q1, .inl (cA 0, 256, .inl (fun _ => 0)))] t.heap ∧ va_K D vwCl (z_t cA) t ∧ va_D A [(h0, .inr (4, [.ref q1, .int 0])), (q1, .inl (cA 0, 256, .inl (fun _ => 0)))]
set_option maxRecDepth 100000 in
set_option maxHeartbeats 4000000 in
theorem c_X5_init (l : Launch) (D : va_G) (cA : Nat → ClassId) (h0 sz : Nat) : Met l yX5_init (.code yX5_init cX5_init 1 none :: z_tb) ({ frames := 1, cells := 1, slots := 256, locals := 12 }) (va_Pc [.ref h0] (fun U => U.heap.size = sz ∧ va_P D vwCl [(h0, .inr (4, [.null, .int 0]))] U.heap ∧ va_K D vwCl (z_t cA) U ∧ va_D (fun _ => True) [(h0, .inr (4, [.null, .int 0]))])) (va_Qv (fun _ : Nat => True) (at_X5 D cA (va_A [(h0, .inr (4, [.null, .int 0]))] sz) h0) (va_A [(h0, .inr (4, [.null, .int 0]))] sz)) 1 256 (va_A [(h0, .inr (4, [.null, .int 0]))] sz) := by
  refine Met.ofW (cc := cX5_init) (maxL := 1) (ret := none) (by decide) rfl ?_
  intro p e s m args below meth c s₁ B hml hv
  obtain ⟨rfl, hsz, hP, hK, hD0⟩ := hv
  have hx := B.exec
  have hb := B.bytes
  have hr := B.returns
  have hts0 := atoms_spec (ws := .code yX5_init cX5_init 1 none :: z_tb) B.pre
  have hts : ∀ w ∈ z_tb, w.before _ s = true := fun w hw => hts0 w (List.mem_cons_of_mem _ hw)
  have hown : s.vm.findClass RX5 = some m.cls := findClass_of_methodNamed B.named
  have hin : meth.name = "<init>" := (name_of_methodNamed B.named B.method).1
  subst hsz
  have hD := hD0.self (sz := s.heap.size)
  generalize hAe : va_A [(h0, .inr (4, [.null, .int 0]))] s.heap.size = A at hD ⊢
  have hA : ∀ q : Nat, s.heap.size ≤ q → A q := fun q h => by rw [← hAe]; exact Or.inr h
  have hS : va_S A s.heap s.heap [] := va_S.rf
  have hl := lv_entry ([.ref h0]) (n := 1) (Nat.le_of_ble_eq_true rfl)
  rw [lg_entry_eq]
  generalize (lg_sl ([.ref h0]) ++ List.replicate (1 - (lg_sl ([.ref h0])).length) Slot.unset).toArray = ls at hl ⊢
  have hl : lv_has ls 1 [(0, .ref h0)] := hl
  refine lv_aload_n hx hb dX5_init_0 rfl (lv_at hl 0 rfl) ?_
  refine W.objInit hx hb hown (hts _ zo_X5) (hts _ zo_i) (hts _ zo_c) rfl (by rw [hml]; exact hl.1) rfl dX5_init_1 (Nat.le_of_ble_eq_true rfl) (Nat.le_of_ble_eq_true rfl) ?_
  refine W.eq (g2 := F0 m 4 ls []) rfl ?_
  refine lv_aload_n hx hb dX5_init_4 rfl (lv_at hl 0 rfl) ?_
  refine lv_sipush (v := 256) hx hb dX5_init_5 (by decide) ?_
  refine va_newa (atype := .int) (ty := .int) (a0 := (256, .inl (fun _ => 0))) hx hb (hts _ za_int) rfl hK hP hD hS hA (fun _ => rfl) (by decide) (by decide) (by decide) (Nat.le_of_ble_eq_true rfl) (Nat.le_of_ble_eq_true rfl) dX5_init_8 (fun q1 cB H hK1 hP hD hS => ?_)
  have hcB : cB = cA 0 := Option.some.inj ((show s.vm.findClass ("[" ++ FieldType.int.toString) = some cB from (hK1.2 3 (cB, .int) rfl).2).symm.trans (hK.2 0 (cA 0, .int) rfl).2)
  subst hcB
  clear hK1
  have hP : va_P D vwCl [(h0, .inr (4, [.null, .int 0])), (q1, .inl (cA 0, 256, .inl (fun _ => 0)))] H := hP
  have hD : va_D A [(h0, .inr (4, [.null, .int 0])), (q1, .inl (cA 0, 256, .inl (fun _ => 0)))] := hD
  refine va_putF (D := D) (ci := 4) (v := .ref q1) (ty := tyX5 0) (C := RX5) (T := TX5) (N := 2) hx hb hts z_X5 tyX5 tyX5_ok nmX5 hown hK hP hD hS 0 rfl rfl 0 (by decide) (hts _ (z_in 160 (by decide +kernel) (by decide +kernel))) (fun _ h9 => h9) rfl hin rfl (tyX5_ok 0 (by decide)) rfl rfl (Nat.le_of_ble_eq_true rfl) dX5_init_10 (fun H locs hP hD hS => ?_)
  have hP : va_P D vwCl [(h0, .inr (4, [.ref q1, .int 0])), (q1, .inl (cA 0, 256, .inl (fun _ => 0)))] H := hP
  have hD : va_D A [(h0, .inr (4, [.ref q1, .int 0])), (q1, .inl (cA 0, 256, .inl (fun _ => 0)))] := hD
  exact W.vret hx hb hr (fun t ht hW => ⟨⟨(q1), rfl, trivial, by rw [ht]; exact hP, va_K.moved hW.alike hK, hD⟩, hS.F ht⟩) hS.2.2 dX5_init_13
def at_X6 (D : va_G) (cA : Nat → ClassId) (A : Nat → Prop) (h0 : Nat) (u : Nat × Nat × Nat) (t : State) : Prop := match u with
  | (q1, q2, q3) => va_P D vwCl [(h0, .inr (5, [.ref q1, .ref q2, .ref q3, .int 0, .int 0, .int 0, .int 0])), (q1, .inl (cA 0, 8, .inl (fun _ => 0))), (q2, .inl (cA 0, 8, .inl (fun _ => 0))), (q3, .inl (cA 0, 8, .inl (fun _ => 0)))] t.heap ∧ va_K D vwCl (z_t cA) t ∧ va_D A [(h0, .inr (5, [.ref q1, .ref q2, .ref q3, .int 0, .int 0, .int 0, .int 0])), (q1, .inl (cA 0, 8, .inl (fun _ => 0))), (q2, .inl (cA 0, 8, .inl (fun _ => 0))), (q3, .inl (cA 0, 8, .inl (fun _ => 0)))]
set_option maxRecDepth 100000 in
set_option maxHeartbeats 4000000 in
theorem c_X6_init (l : Launch) (D : va_G) (cA : Nat → ClassId) (h0 sz : Nat) : Met l yX6_init (.code yX6_init cX6_init 1 none :: z_tb) ({ frames := 1, cells := 3, slots := 24, locals := 12 }) (va_Pc [.ref h0] (fun U => U.heap.size = sz ∧ va_P D vwCl [(h0, .inr (5, [.null, .null, .null, .int 0, .int 0, .int 0, .int 0]))] U.heap ∧ va_K D vwCl (z_t cA) U ∧ va_D (fun _ => True) [(h0, .inr (5, [.null, .null, .null, .int 0, .int 0, .int 0, .int 0]))])) (va_Qv (fun _ : Nat × Nat × Nat => True) (at_X6 D cA (va_A [(h0, .inr (5, [.null, .null, .null, .int 0, .int 0, .int 0, .int 0]))] sz) h0) (va_A [(h0, .inr (5, [.null, .null, .null, .int 0, .int 0, .int 0, .int 0]))] sz)) 3 24 (va_A [(h0, .inr (5, [.null, .null, .null, .int 0, .int 0, .int 0, .int 0]))] sz) := by
  refine Met.ofW (cc := cX6_init) (maxL := 1) (ret := none) (by decide) rfl ?_
  intro p e s m args below meth c s₁ B hml hv
  obtain ⟨rfl, hsz, hP, hK, hD0⟩ := hv
  have hx := B.exec
  have hb := B.bytes
  have hr := B.returns
  have hts0 := atoms_spec (ws := .code yX6_init cX6_init 1 none :: z_tb) B.pre
  have hts : ∀ w ∈ z_tb, w.before _ s = true := fun w hw => hts0 w (List.mem_cons_of_mem _ hw)
  have hown : s.vm.findClass RX6 = some m.cls := findClass_of_methodNamed B.named
  have hin : meth.name = "<init>" := (name_of_methodNamed B.named B.method).1
  subst hsz
  have hD := hD0.self (sz := s.heap.size)
  generalize hAe : va_A [(h0, .inr (5, [.null, .null, .null, .int 0, .int 0, .int 0, .int 0]))] s.heap.size = A at hD ⊢
  have hA : ∀ q : Nat, s.heap.size ≤ q → A q := fun q h => by rw [← hAe]; exact Or.inr h
  have hS : va_S A s.heap s.heap [] := va_S.rf
  have hl := lv_entry ([.ref h0]) (n := 1) (Nat.le_of_ble_eq_true rfl)
  rw [lg_entry_eq]
  generalize (lg_sl ([.ref h0]) ++ List.replicate (1 - (lg_sl ([.ref h0])).length) Slot.unset).toArray = ls at hl ⊢
  have hl : lv_has ls 1 [(0, .ref h0)] := hl
  refine lv_aload_n hx hb dX6_init_0 rfl (lv_at hl 0 rfl) ?_
  refine W.objInit hx hb hown (hts _ zo_X6) (hts _ zo_i) (hts _ zo_c) rfl (by rw [hml]; exact hl.1) rfl dX6_init_1 (Nat.le_of_ble_eq_true rfl) (Nat.le_of_ble_eq_true rfl) ?_
  refine W.eq (g2 := F0 m 4 ls []) rfl ?_
  refine lv_aload_n hx hb dX6_init_4 rfl (lv_at hl 0 rfl) ?_
  refine lv_bipush (v := 8) hx hb dX6_init_5 (by decide) ?_
  refine va_newa (atype := .int) (ty := .int) (a0 := (8, .inl (fun _ => 0))) hx hb (hts _ za_int) rfl hK hP hD hS hA (fun _ => rfl) (by decide) (by decide) (by decide) (Nat.le_of_ble_eq_true rfl) (Nat.le_of_ble_eq_true rfl) dX6_init_7 (fun q1 cB H hK1 hP hD hS => ?_)
  have hcB : cB = cA 0 := Option.some.inj ((show s.vm.findClass ("[" ++ FieldType.int.toString) = some cB from (hK1.2 3 (cB, .int) rfl).2).symm.trans (hK.2 0 (cA 0, .int) rfl).2)
  subst hcB
  clear hK1
  have hP : va_P D vwCl [(h0, .inr (5, [.null, .null, .null, .int 0, .int 0, .int 0, .int 0])), (q1, .inl (cA 0, 8, .inl (fun _ => 0)))] H := hP
  have hD : va_D A [(h0, .inr (5, [.null, .null, .null, .int 0, .int 0, .int 0, .int 0])), (q1, .inl (cA 0, 8, .inl (fun _ => 0)))] := hD
  refine va_putF (D := D) (ci := 5) (v := .ref q1) (ty := tyX6 0) (C := RX6) (T := TX6) (N := 7) hx hb hts z_X6 tyX6 tyX6_ok nmX6 hown hK hP hD hS 0 rfl rfl 0 (by decide) (hts _ (z_in 100 (by decide +kernel) (by decide +kernel))) (fun _ h9 => h9) rfl hin rfl (tyX6_ok 0 (by decide)) rfl rfl (Nat.le_of_ble_eq_true rfl) dX6_init_9 (fun H locs hP hD hS => ?_)
  have hP : va_P D vwCl [(h0, .inr (5, [.ref q1, .null, .null, .int 0, .int 0, .int 0, .int 0])), (q1, .inl (cA 0, 8, .inl (fun _ => 0)))] H := hP
  have hD : va_D A [(h0, .inr (5, [.ref q1, .null, .null, .int 0, .int 0, .int 0, .int 0])), (q1, .inl (cA 0, 8, .inl (fun _ => 0)))] := hD
  refine lv_aload_n hx hb dX6_init_12 rfl (lv_at hl 0 rfl) ?_
  refine lv_bipush (v := 8) hx hb dX6_init_13 (by decide) ?_
  refine va_newa (atype := .int) (ty := .int) (a0 := (8, .inl (fun _ => 0))) hx hb (hts _ za_int) rfl hK hP hD hS hA (fun _ => rfl) (by decide) (by decide) (by decide) (Nat.le_of_ble_eq_true rfl) (Nat.le_of_ble_eq_true rfl) dX6_init_15 (fun q2 cB H hK1 hP hD hS => ?_)
  have hcB : cB = cA 0 := Option.some.inj ((show s.vm.findClass ("[" ++ FieldType.int.toString) = some cB from (hK1.2 3 (cB, .int) rfl).2).symm.trans (hK.2 0 (cA 0, .int) rfl).2)
  subst hcB
  clear hK1
  have hP : va_P D vwCl [(h0, .inr (5, [.ref q1, .null, .null, .int 0, .int 0, .int 0, .int 0])), (q1, .inl (cA 0, 8, .inl (fun _ => 0))), (q2, .inl (cA 0, 8, .inl (fun _ => 0)))] H := hP
  have hD : va_D A [(h0, .inr (5, [.ref q1, .null, .null, .int 0, .int 0, .int 0, .int 0])), (q1, .inl (cA 0, 8, .inl (fun _ => 0))), (q2, .inl (cA 0, 8, .inl (fun _ => 0)))] := hD
  refine va_putF (D := D) (ci := 5) (v := .ref q2) (ty := tyX6 1) (C := RX6) (T := TX6) (N := 7) hx hb hts z_X6 tyX6 tyX6_ok nmX6 hown hK hP hD hS 0 rfl rfl 1 (by decide) (hts _ (z_in 103 (by decide +kernel) (by decide +kernel))) (fun _ h9 => h9) rfl hin rfl (tyX6_ok 1 (by decide)) rfl rfl (Nat.le_of_ble_eq_true rfl) dX6_init_17 (fun H locs hP hD hS => ?_)
  have hP : va_P D vwCl [(h0, .inr (5, [.ref q1, .ref q2, .null, .int 0, .int 0, .int 0, .int 0])), (q1, .inl (cA 0, 8, .inl (fun _ => 0))), (q2, .inl (cA 0, 8, .inl (fun _ => 0)))] H := hP
  have hD : va_D A [(h0, .inr (5, [.ref q1, .ref q2, .null, .int 0, .int 0, .int 0, .int 0])), (q1, .inl (cA 0, 8, .inl (fun _ => 0))), (q2, .inl (cA 0, 8, .inl (fun _ => 0)))] := hD
  refine lv_aload_n hx hb dX6_init_20 rfl (lv_at hl 0 rfl) ?_
  refine lv_bipush (v := 8) hx hb dX6_init_21 (by decide) ?_
  refine va_newa (atype := .int) (ty := .int) (a0 := (8, .inl (fun _ => 0))) hx hb (hts _ za_int) rfl hK hP hD hS hA (fun _ => rfl) (by decide) (by decide) (by decide) (Nat.le_of_ble_eq_true rfl) (Nat.le_of_ble_eq_true rfl) dX6_init_23 (fun q3 cB H hK1 hP hD hS => ?_)
  have hcB : cB = cA 0 := Option.some.inj ((show s.vm.findClass ("[" ++ FieldType.int.toString) = some cB from (hK1.2 3 (cB, .int) rfl).2).symm.trans (hK.2 0 (cA 0, .int) rfl).2)
  subst hcB
  clear hK1
  have hP : va_P D vwCl [(h0, .inr (5, [.ref q1, .ref q2, .null, .int 0, .int 0, .int 0, .int 0])), (q1, .inl (cA 0, 8, .inl (fun _ => 0))), (q2, .inl (cA 0, 8, .inl (fun _ => 0))), (q3, .inl (cA 0, 8, .inl (fun _ => 0)))] H := hP
  have hD : va_D A [(h0, .inr (5, [.ref q1, .ref q2, .null, .int 0, .int 0, .int 0, .int 0])), (q1, .inl (cA 0, 8, .inl (fun _ => 0))), (q2, .inl (cA 0, 8, .inl (fun _ => 0))), (q3, .inl (cA 0, 8, .inl (fun _ => 0)))] := hD
  refine va_putF (D := D) (ci := 5) (v := .ref q3) (ty := tyX6 2) (C := RX6) (T := TX6) (N := 7) hx hb hts z_X6 tyX6 tyX6_ok nmX6 hown hK hP hD hS 0 rfl rfl 2 (by decide) (hts _ (z_in 106 (by decide +kernel) (by decide +kernel))) (fun _ h9 => h9) rfl hin rfl (tyX6_ok 2 (by decide)) rfl rfl (Nat.le_of_ble_eq_true rfl) dX6_init_25 (fun H locs hP hD hS => ?_)
  have hP : va_P D vwCl [(h0, .inr (5, [.ref q1, .ref q2, .ref q3, .int 0, .int 0, .int 0, .int 0])), (q1, .inl (cA 0, 8, .inl (fun _ => 0))), (q2, .inl (cA 0, 8, .inl (fun _ => 0))), (q3, .inl (cA 0, 8, .inl (fun _ => 0)))] H := hP
  have hD : va_D A [(h0, .inr (5, [.ref q1, .ref q2, .ref q3, .int 0, .int 0, .int 0, .int 0])), (q1, .inl (cA 0, 8, .inl (fun _ => 0))), (q2, .inl (cA 0, 8, .inl (fun _ => 0))), (q3, .inl (cA 0, 8, .inl (fun _ => 0)))] := hD
  exact W.vret hx hb hr (fun t ht hW => ⟨⟨(q1, q2, q3), rfl, trivial, by rw [ht]; exact hP, va_K.moved hW.alike hK, hD⟩, hS.F ht⟩) hS.2.2 dX6_init_28
def at_X7 (D : va_G) (cA : Nat → ClassId) (A : Nat → Prop) (h0 : Nat) (u : Nat × Nat × Nat) (t : State) : Prop := match u with
  | (q1, q2, q3) => va_P D vwCl [(h0, .inr (6, [.ref q1, .ref q2, .ref q3, .int 0])), (q1, .inl (cA 0, 6, .inl (fun _ => 0))), (q2, .inl (cA 0, 6, .inl (fun _ => 0))), (q3, .inl (cA 2, 6, .inl (fun _ => 0)))] t.heap ∧ va_K D vwCl (z_t cA) t ∧ va_D A [(h0, .inr (6, [.ref q1, .ref q2, .ref q3, .int 0])), (q1, .inl (cA 0, 6, .inl (fun _ => 0))), (q2, .inl (cA 0, 6, .inl (fun _ => 0))), (q3, .inl (cA 2, 6, .inl (fun _ => 0)))]
set_option maxRecDepth 100000 in
set_option maxHeartbeats 4000000 in
theorem c_X7_init (l : Launch) (D : va_G) (cA : Nat → ClassId) (h0 sz : Nat) : Met l yX7_init (.code yX7_init cX7_init 1 none :: z_tb) ({ frames := 1, cells := 3, slots := 18, locals := 12 }) (va_Pc [.ref h0] (fun U => U.heap.size = sz ∧ va_P D vwCl [(h0, .inr (6, [.null, .null, .null, .int 0]))] U.heap ∧ va_K D vwCl (z_t cA) U ∧ va_D (fun _ => True) [(h0, .inr (6, [.null, .null, .null, .int 0]))])) (va_Qv (fun _ : Nat × Nat × Nat => True) (at_X7 D cA (va_A [(h0, .inr (6, [.null, .null, .null, .int 0]))] sz) h0) (va_A [(h0, .inr (6, [.null, .null, .null, .int 0]))] sz)) 3 18 (va_A [(h0, .inr (6, [.null, .null, .null, .int 0]))] sz) := by
  refine Met.ofW (cc := cX7_init) (maxL := 1) (ret := none) (by decide) rfl ?_
  intro p e s m args below meth c s₁ B hml hv
  obtain ⟨rfl, hsz, hP, hK, hD0⟩ := hv
  have hx := B.exec
  have hb := B.bytes
  have hr := B.returns
  have hts0 := atoms_spec (ws := .code yX7_init cX7_init 1 none :: z_tb) B.pre
  have hts : ∀ w ∈ z_tb, w.before _ s = true := fun w hw => hts0 w (List.mem_cons_of_mem _ hw)
  have hown : s.vm.findClass RX7 = some m.cls := findClass_of_methodNamed B.named
  have hin : meth.name = "<init>" := (name_of_methodNamed B.named B.method).1
  subst hsz
  have hD := hD0.self (sz := s.heap.size)
  generalize hAe : va_A [(h0, .inr (6, [.null, .null, .null, .int 0]))] s.heap.size = A at hD ⊢
  have hA : ∀ q : Nat, s.heap.size ≤ q → A q := fun q h => by rw [← hAe]; exact Or.inr h
  have hS : va_S A s.heap s.heap [] := va_S.rf
  have hl := lv_entry ([.ref h0]) (n := 1) (Nat.le_of_ble_eq_true rfl)
  rw [lg_entry_eq]
  generalize (lg_sl ([.ref h0]) ++ List.replicate (1 - (lg_sl ([.ref h0])).length) Slot.unset).toArray = ls at hl ⊢
  have hl : lv_has ls 1 [(0, .ref h0)] := hl
  refine lv_aload_n hx hb dX7_init_0 rfl (lv_at hl 0 rfl) ?_
  refine W.objInit hx hb hown (hts _ zo_X7) (hts _ zo_i) (hts _ zo_c) rfl (by rw [hml]; exact hl.1) rfl dX7_init_1 (Nat.le_of_ble_eq_true rfl) (Nat.le_of_ble_eq_true rfl) ?_
  refine W.eq (g2 := F0 m 4 ls []) rfl ?_
  refine lv_aload_n hx hb dX7_init_4 rfl (lv_at hl 0 rfl) ?_
  refine lv_bipush (v := 6) hx hb dX7_init_5 (by decide) ?_
  refine va_newa (atype := .int) (ty := .int) (a0 := (6, .inl (fun _ => 0))) hx hb (hts _ za_int) rfl hK hP hD hS hA (fun _ => rfl) (by decide) (by decide) (by decide) (Nat.le_of_ble_eq_true rfl) (Nat.le_of_ble_eq_true rfl) dX7_init_7 (fun q1 cB H hK1 hP hD hS => ?_)
  have hcB : cB = cA 0 := Option.some.inj ((show s.vm.findClass ("[" ++ FieldType.int.toString) = some cB from (hK1.2 3 (cB, .int) rfl).2).symm.trans (hK.2 0 (cA 0, .int) rfl).2)
  subst hcB
  clear hK1
  have hP : va_P D vwCl [(h0, .inr (6, [.null, .null, .null, .int 0])), (q1, .inl (cA 0, 6, .inl (fun _ => 0)))] H := hP
  have hD : va_D A [(h0, .inr (6, [.null, .null, .null, .int 0])), (q1, .inl (cA 0, 6, .inl (fun _ => 0)))] := hD
  refine va_putF (D := D) (ci := 6) (v := .ref q1) (ty := tyX7 0) (C := RX7) (T := TX7) (N := 4) hx hb hts z_X7 tyX7 tyX7_ok nmX7 hown hK hP hD hS 0 rfl rfl 0 (by decide) (hts _ (z_in 139 (by decide +kernel) (by decide +kernel))) (fun _ h9 => h9) rfl hin rfl (tyX7_ok 0 (by decide)) rfl rfl (Nat.le_of_ble_eq_true rfl) dX7_init_9 (fun H locs hP hD hS => ?_)
  have hP : va_P D vwCl [(h0, .inr (6, [.ref q1, .null, .null, .int 0])), (q1, .inl (cA 0, 6, .inl (fun _ => 0)))] H := hP
  have hD : va_D A [(h0, .inr (6, [.ref q1, .null, .null, .int 0])), (q1, .inl (cA 0, 6, .inl (fun _ => 0)))] := hD
  refine lv_aload_n hx hb dX7_init_12 rfl (lv_at hl 0 rfl) ?_
  refine lv_bipush (v := 6) hx hb dX7_init_13 (by decide) ?_
  refine va_newa (atype := .int) (ty := .int) (a0 := (6, .inl (fun _ => 0))) hx hb (hts _ za_int) rfl hK hP hD hS hA (fun _ => rfl) (by decide) (by decide) (by decide) (Nat.le_of_ble_eq_true rfl) (Nat.le_of_ble_eq_true rfl) dX7_init_15 (fun q2 cB H hK1 hP hD hS => ?_)
  have hcB : cB = cA 0 := Option.some.inj ((show s.vm.findClass ("[" ++ FieldType.int.toString) = some cB from (hK1.2 3 (cB, .int) rfl).2).symm.trans (hK.2 0 (cA 0, .int) rfl).2)
  subst hcB
  clear hK1
  have hP : va_P D vwCl [(h0, .inr (6, [.ref q1, .null, .null, .int 0])), (q1, .inl (cA 0, 6, .inl (fun _ => 0))), (q2, .inl (cA 0, 6, .inl (fun _ => 0)))] H := hP
  have hD : va_D A [(h0, .inr (6, [.ref q1, .null, .null, .int 0])), (q1, .inl (cA 0, 6, .inl (fun _ => 0))), (q2, .inl (cA 0, 6, .inl (fun _ => 0)))] := hD
  refine va_putF (D := D) (ci := 6) (v := .ref q2) (ty := tyX7 1) (C := RX7) (T := TX7) (N := 4) hx hb hts z_X7 tyX7 tyX7_ok nmX7 hown hK hP hD hS 0 rfl rfl 1 (by decide) (hts _ (z_in 140 (by decide +kernel) (by decide +kernel))) (fun _ h9 => h9) rfl hin rfl (tyX7_ok 1 (by decide)) rfl rfl (Nat.le_of_ble_eq_true rfl) dX7_init_17 (fun H locs hP hD hS => ?_)
  have hP : va_P D vwCl [(h0, .inr (6, [.ref q1, .ref q2, .null, .int 0])), (q1, .inl (cA 0, 6, .inl (fun _ => 0))), (q2, .inl (cA 0, 6, .inl (fun _ => 0)))] H := hP
  have hD : va_D A [(h0, .inr (6, [.ref q1, .ref q2, .null, .int 0])), (q1, .inl (cA 0, 6, .inl (fun _ => 0))), (q2, .inl (cA 0, 6, .inl (fun _ => 0)))] := hD
  refine lv_aload_n hx hb dX7_init_20 rfl (lv_at hl 0 rfl) ?_
  refine lv_bipush (v := 6) hx hb dX7_init_21 (by decide) ?_
  refine va_newa (atype := .boolean) (ty := .boolean) (a0 := (6, .inl (fun _ => 0))) hx hb (hts _ za_boolean) rfl hK hP hD hS hA (fun _ => rfl) (by decide) (by decide) (by decide) (Nat.le_of_ble_eq_true rfl) (Nat.le_of_ble_eq_true rfl) dX7_init_23 (fun q3 cB H hK1 hP hD hS => ?_)
  have hcB : cB = cA 2 := Option.some.inj ((show s.vm.findClass ("[" ++ FieldType.boolean.toString) = some cB from (hK1.2 3 (cB, .boolean) rfl).2).symm.trans (hK.2 2 (cA 2, .boolean) rfl).2)
  subst hcB
  clear hK1
  have hP : va_P D vwCl [(h0, .inr (6, [.ref q1, .ref q2, .null, .int 0])), (q1, .inl (cA 0, 6, .inl (fun _ => 0))), (q2, .inl (cA 0, 6, .inl (fun _ => 0))), (q3, .inl (cA 2, 6, .inl (fun _ => 0)))] H := hP
  have hD : va_D A [(h0, .inr (6, [.ref q1, .ref q2, .null, .int 0])), (q1, .inl (cA 0, 6, .inl (fun _ => 0))), (q2, .inl (cA 0, 6, .inl (fun _ => 0))), (q3, .inl (cA 2, 6, .inl (fun _ => 0)))] := hD
  refine va_putF (D := D) (ci := 6) (v := .ref q3) (ty := tyX7 2) (C := RX7) (T := TX7) (N := 4) hx hb hts z_X7 tyX7 tyX7_ok nmX7 hown hK hP hD hS 0 rfl rfl 2 (by decide) (hts _ (z_in 141 (by decide +kernel) (by decide +kernel))) (fun _ h9 => h9) rfl hin rfl (tyX7_ok 2 (by decide)) rfl rfl (Nat.le_of_ble_eq_true rfl) dX7_init_25 (fun H locs hP hD hS => ?_)
  have hP : va_P D vwCl [(h0, .inr (6, [.ref q1, .ref q2, .ref q3, .int 0])), (q1, .inl (cA 0, 6, .inl (fun _ => 0))), (q2, .inl (cA 0, 6, .inl (fun _ => 0))), (q3, .inl (cA 2, 6, .inl (fun _ => 0)))] H := hP
  have hD : va_D A [(h0, .inr (6, [.ref q1, .ref q2, .ref q3, .int 0])), (q1, .inl (cA 0, 6, .inl (fun _ => 0))), (q2, .inl (cA 0, 6, .inl (fun _ => 0))), (q3, .inl (cA 2, 6, .inl (fun _ => 0)))] := hD
  exact W.vret hx hb hr (fun t ht hW => ⟨⟨(q1, q2, q3), rfl, trivial, by rw [ht]; exact hP, va_K.moved hW.alike hK, hD⟩, hS.F ht⟩) hS.2.2 dX7_init_28
