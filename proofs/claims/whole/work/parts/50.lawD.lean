/-! WHAT HOLDS AT THE LAW'S ENTRY -/
theorem st_arr {s : State} {args : Array Value} {ty : FieldType} (h : (Cond.arrayClass ty).before args s = true) : ∃ cB : ClassId, ArrOfT s cB ty ∧ s.vm.findClass ("[" ++ ty.toString) = some cB := by
  obtain ⟨cB, kB, comp, h1, h2, h3⟩ := Cond.arrayClass_spec h
  exact ⟨cB, fun n z => ⟨fun k h => (by cases h), kB, h2, comp, h3⟩, h1⟩
theorem st_K {s : State} {args : Array Value} (hts : ∀ w ∈ z_tb, w.before args s = true) : ∃ (G : va_G) (cA : Nat → ClassId), va_K G vwCl (z_t cA) s := by
  obtain ⟨c0, i0, k0⟩ := u_known (C := RX0) (T := TX0) (N := 3) (n := 3) hts z_X0 (hts _ zn_X0.1)
  obtain ⟨c1, i1, k1⟩ := u_known (C := RX1) (T := TX1) (N := 1) (n := 1) hts z_X1 (hts _ zn_X1.1)
  obtain ⟨c2, i2, k2⟩ := u_known (C := RX2) (T := TX2) (N := 1) (n := 1) hts z_X2 (hts _ zn_X2.1)
  obtain ⟨c3, i3, k3⟩ := u_known (C := RX4) (T := TX4) (N := 2) (n := 2) hts z_X4 (hts _ zn_X4.1)
  obtain ⟨c4, i4, k4⟩ := u_known (C := RX5) (T := TX5) (N := 2) (n := 2) hts z_X5 (hts _ zn_X5.1)
  obtain ⟨c5, i5, k5⟩ := u_known (C := RX6) (T := TX6) (N := 7) (n := 7) hts z_X6 (hts _ zn_X6.1)
  obtain ⟨c6, i6, k6⟩ := u_known (C := RX7) (T := TX7) (N := 4) (n := 4) hts z_X7 (hts _ zn_X7.1)
  obtain ⟨c7, i7, k7⟩ := u_known (C := RX8) (T := TX8) (N := 12) (n := 12) hts z_X8 (hts _ zn_X8.1)
  obtain ⟨c8, i8, k8⟩ := u_known (C := RX9) (T := TX9) (N := 32) (n := 32) hts z_X9 (hts _ zn_X9.1)
  obtain ⟨b0, q0, r0⟩ := st_arr (hts _ za_int)
  obtain ⟨b1, q1, r1⟩ := st_arr (hts _ za_byte)
  obtain ⟨b2, q2, r2⟩ := st_arr (hts _ za_boolean)
  refine ⟨(fun k => [c0, c1, c2, c3, c4, c5, c6, c7, c8].getD k c0, fun k => [i0, i1, i2, i3, i4, i5, i6, i7, i8].getD k i0), fun k => [b0, b1, b2].getD k b0, ⟨fun k q hq => ?_, fun k q hq => ?_⟩⟩
  · match k, hq with
    | 0, hq => cases hq; exact k0
    | 1, hq => cases hq; exact k1
    | 2, hq => cases hq; exact k2
    | 3, hq => cases hq; exact k3
    | 4, hq => cases hq; exact k4
    | 5, hq => cases hq; exact k5
    | 6, hq => cases hq; exact k6
    | 7, hq => cases hq; exact k7
    | 8, hq => cases hq; exact k8
    | k + 9, hq => cases hq
  · match k, hq with
    | 0, hq => cases hq; exact ⟨q0, r0⟩
    | 1, hq => cases hq; exact ⟨q1, r1⟩
    | 2, hq => cases hq; exact ⟨q2, r2⟩
    | k + 3, hq => cases hq
abbrev tmS : Nat → Term := fun _ => Term.string "GrangeParty$Kinds" 11
theorem st_S {s : State} {b : Nat} (hgv : (Jvm.Cond.and given_1 narrow_1).before #[Value.ref b] s = true) : ∃ kA vA : Nat, vk_S 1 [5] [[103, 99, 104, 112, 107]] (fun _ => kA) (fun _ => vA) (lA s) s s.heap ∧ (Term.string "GrangeParty$Kinds" 11).eval #[Value.ref b] s none [] s = some (.ref kA) := by
  have hs := flat_of_before _ hgv
  obtain ⟨aK, aV, h1, h2⟩ := vk_Sof (args := #[Value.ref b]) (s := s) (N := 1) (tm := tmS) (len := [5]) (byt := [[103, 99, 104, 112, 107]]) (A := lA s)
    (fun i hi => by rw [show i = 0 by omega]; decide)
    (fun i hi => hs (Cond.exactly (Term.string "GrangeParty$Kinds" 11) "java/lang/String") (by decide +kernel))
    (fun i hi => hs (Cond.eq (.field (Term.string "GrangeParty$Kinds" 11) "java/lang/String" "coder" "B") (.int 0)) (by decide +kernel))
    (fun i hi => hs (Cond.arrayOf (.field (Term.string "GrangeParty$Kinds" 11) "java/lang/String" "value" "[B") .byte) (by decide +kernel))
    (fun i hi => by rw [show i = 0 by omega]; exact hs (Cond.eq (.length (.field (Term.string "GrangeParty$Kinds" 11) "java/lang/String" "value" "[B")) (.int 5)) (by decide +kernel))
    (fun i hi j hj => by
      rw [show i = 0 by omega] at hj ⊢
      have hj : j < 5 := hj
      rcases (show j = 0 ∨ j = 1 ∨ j = 2 ∨ j = 3 ∨ j = 4 by omega) with rfl | rfl | rfl | rfl | rfl
      · exact hs (Cond.eq (.elem (.field (Term.string "GrangeParty$Kinds" 11) "java/lang/String" "value" "[B") (.int 0)) (.int 103)) (by decide +kernel)
      · exact hs (Cond.eq (.elem (.field (Term.string "GrangeParty$Kinds" 11) "java/lang/String" "value" "[B") (.int 1)) (.int 99)) (by decide +kernel)
      · exact hs (Cond.eq (.elem (.field (Term.string "GrangeParty$Kinds" 11) "java/lang/String" "value" "[B") (.int 2)) (.int 104)) (by decide +kernel)
      · exact hs (Cond.eq (.elem (.field (Term.string "GrangeParty$Kinds" 11) "java/lang/String" "value" "[B") (.int 3)) (.int 112)) (by decide +kernel)
      · exact hs (Cond.eq (.elem (.field (Term.string "GrangeParty$Kinds" 11) "java/lang/String" "value" "[B") (.int 4)) (.int 107)) (by decide +kernel))
    (fun i j hi hj hn => absurd (show i = j by omega) hn) (fun a h => Nat.not_le.mpr h)
  refine ⟨aK 0, aV 0, ⟨fun i hi => ?_, fun i j hi hj _ => by omega⟩, h2 0 (by decide)⟩
  rw [show i = 0 by omega]
  exact h1.1 0 (by decide)
theorem st_X {s : State} {b : Nat} (hts : ∀ w ∈ lw_tbl, w.before #[Value.ref b] s = true) (hgv : (Jvm.Cond.and given_1 narrow_1).before #[Value.ref b] s = true) : ∃ kA vA tA : Nat, ∀ ad : Nat → Nat, ad 100 = kA → ad 101 = vA → ad 102 = tA → z_X ad (lA s) s s.heap := by
  have hs := flat_of_before _ hgv
  have hA : ∀ a : Nat, a < s.heap.size → ¬ lA s a := fun a h => Nat.not_le.mpr h
  obtain ⟨kA, vA, h1, h2⟩ := st_S hgv
  have n1 : va_Nw (.methodLinkNest RX6 63 yX8_isAmong RX8) s := va_Nw.of rfl (hts _ (List.mem_of_getElem? (i := 394) (by decide +kernel)))
  have n2 : va_Nw (.methodLinkNest RX2 29 yX8_isAmong RX8) s := va_Nw.of rfl (hts _ (List.mem_of_getElem? (i := 400) (by decide +kernel)))
  have n3 : va_Nw (.methodLinkNest RX0 41 yX8_isAmong RX8) s := va_Nw.of rfl (hts _ (List.mem_of_getElem? (i := 589) (by decide +kernel)))
  have n4 : vk_R RX3 11 "gchpk" kA s := vk_R.of (A := #[Value.ref b]) (hts _ (List.mem_of_getElem? (i := 282) (by decide +kernel))) h2
  have n6 : va_Z "java/lang/String" "COMPACT_STRINGS" "Z" (.int 1) (lA s) s s.heap := va_Zof (args := #[Value.ref b]) (hts _ (List.mem_of_getElem? (i := 292) (by decide +kernel))) (hts _ (List.mem_of_getElem? (i := 64) (by decide +kernel))) (va_eqi (hs _ (by decide +kernel))) hA
  have n7 : va_Zq "jdk/internal/util/Preconditions" "SIOOBE_FORMATTER" "Ljava/util/function/BiFunction;" (lA s) s s.heap := va_Zqof (args := #[Value.ref b]) (hts _ (List.mem_of_getElem? (i := 308) (by decide +kernel))) (hts _ (List.mem_of_getElem? (i := 66) (by decide +kernel))) (hs _ (by decide +kernel)) hA
  rcases n7 with n7 | ⟨tA, n7⟩
  · exact ⟨kA, vA, 0, fun ad e1 e2 e3 => ⟨n1, n2, n3, e1 ▸ n4, by rw [e1, e2]; exact h1, n6, .null, Or.inl rfl, n7⟩⟩
  · exact ⟨kA, vA, tA, fun ad e1 e2 e3 => ⟨n1, n2, n3, e1 ▸ n4, by rw [e1, e2]; exact h1, n6, .ref 102, Or.inr rfl, by rw [show z_v ad (.ref 102) = .ref tA from congrArg Value.ref e3]; exact n7⟩⟩
abbrev hz0 : hp := (fun _ _ => 0, fun _ _ => 0)
abbrev f00 : zF := fun _ => 0
abbrev S00 : zS := ((0, f00), (0, f00, f00, f00, 0, 0, 0), (0, f00, f00, f00), false, (0, f00, f00, 0, 0, (0, f00, f00, f00)), 0)
theorem z8_00 : dZ8 f00 := fun _ _ => rfl
theorem z6_00 : dZ6 f00 := fun _ _ => rfl
theorem D_00 : D hz0 S00 := ⟨⟨rfl, rfl⟩, ⟨rfl, rfl, rfl, rfl, rfl, rfl, rfl⟩, ⟨rfl, rfl, rfl, rfl⟩, ⟨rfl, rfl⟩, fun h => absurd h Bool.false_ne_true, ⟨rfl, z8_00, z8_00, z8_00, z8_00, z8_00, z8_00, z6_00, z6_00, z6_00⟩⟩
theorem MS_00 : MS hz0 S00 := ⟨⟨rfl, rfl⟩, ⟨rfl, rfl, rfl, rfl, rfl, rfl, rfl⟩, ⟨rfl, rfl, rfl, rfl⟩, ⟨rfl, false, 0, rfl, rfl, Nat.le_refl _, rfl⟩, fun h => absurd h Bool.false_ne_true, ⟨z8_00, z8_00, z8_00, z6_00, z6_00, z6_00⟩⟩
theorem Ok_00 : OkS S00 := ⟨⟨by decide, fun p h => absurd h (Nat.not_lt_zero _)⟩, ⟨⟨by decide, fun g h => absurd h (Nat.not_lt_zero _), fun g h => absurd h (Nat.not_lt_zero _), fun g h => absurd h (Nat.not_lt_zero _)⟩, by decide, by decide, by decide, z8_00, z8_00, z8_00⟩, ⟨by decide, z6_00, z6_00, z6_00, fun _ => Or.inl rfl⟩, fun h => absurd h Bool.false_ne_true⟩
def w8 (cA : Nat → ClassId) (h0 : Nat) (a : Nat → Nat) : va_W := [(h0, .inr (7, [.ref (a 1), .ref (a 3), .ref (a 7), .ref (a 11), .ref (a 15), .ref (a 19), .ref (a 23), .ref (a 25), .ref (a 27), .ref (a 29), .int 0, .int 0])), ((a 1), .inr (3, [.ref (a 2), .int 0])), ((a 2), .inl (cA 0, 36, .inl (fun _ => 0))), ((a 3), .inr (5, [.ref (a 4), .ref (a 5), .ref (a 6), .int 0, .int 0, .int 0, .int 0])), ((a 4), .inl (cA 0, 8, .inl (fun _ => 0))), ((a 5), .inl (cA 0, 8, .inl (fun _ => 0))), ((a 6), .inl (cA 0, 8, .inl (fun _ => 0))), ((a 7), .inr (6, [.ref (a 8), .ref (a 9), .ref (a 10), .int 0])), ((a 8), .inl (cA 0, 6, .inl (fun _ => 0))), ((a 9), .inl (cA 0, 6, .inl (fun _ => 0))), ((a 10), .inl (cA 2, 6, .inl (fun _ => 0))), ((a 11), .inr (5, [.ref (a 12), .ref (a 13), .ref (a 14), .int 0, .int 0, .int 0, .int 0])), ((a 12), .inl (cA 0, 8, .inl (fun _ => 0))), ((a 13), .inl (cA 0, 8, .inl (fun _ => 0))), ((a 14), .inl (cA 0, 8, .inl (fun _ => 0))), ((a 15), .inr (6, [.ref (a 16), .ref (a 17), .ref (a 18), .int 0])), ((a 16), .inl (cA 0, 6, .inl (fun _ => 0))), ((a 17), .inl (cA 0, 6, .inl (fun _ => 0))), ((a 18), .inl (cA 2, 6, .inl (fun _ => 0))), ((a 19), .inr (5, [.ref (a 20), .ref (a 21), .ref (a 22), .int 0, .int 0, .int 0, .int 0])), ((a 20), .inl (cA 0, 8, .inl (fun _ => 0))), ((a 21), .inl (cA 0, 8, .inl (fun _ => 0))), ((a 22), .inl (cA 0, 8, .inl (fun _ => 0))), ((a 23), .inr (4, [.ref (a 24), .int 0])), ((a 24), .inl (cA 0, 256, .inl (fun _ => 0))), ((a 25), .inr (0, [.ref (a 26), .int 0, .int 0])), ((a 26), .inl (cA 0, 8, .inl (fun _ => 0))), ((a 27), .inr (2, [.ref (a 28)])), ((a 28), .inl (cA 0, 8, .inl (fun _ => 0))), ((a 29), .inr (1, [.int 0]))]
def w9 (cA : Nat → ClassId) (h0 : Nat) (a : Nat → Nat) : va_W := [(h0, .inr (8, [.int 0, .int 0, .int 0, .int 0, .int 0, .ref (a 31), .ref (a 32), .ref (a 33), .int 0, .ref (a 34), .ref (a 35), .ref (a 36), .int 0, .ref (a 37), .int 0, .int 0, .ref (a 38), .int 0, .int 0, .long 0, .int 0, .int 0, .int 0, .int 0, .int 0, .int 0, .ref (a 39), .ref (a 40), .ref (a 41), .ref (a 42), .ref (a 43), .long 0])), ((a 31), .inl (cA 0, 8, .inl (fun _ => 0))), ((a 32), .inl (cA 0, 8, .inl (fun _ => 0))), ((a 33), .inl (cA 0, 8, .inl (fun _ => 0))), ((a 34), .inl (cA 0, 6, .inl (fun _ => 0))), ((a 35), .inl (cA 0, 6, .inl (fun _ => 0))), ((a 36), .inl (cA 0, 6, .inl (fun _ => 0))), ((a 37), .inl (cA 1, 36, .inl (fun _ => 0))), ((a 38), .inl (cA 0, 8, .inl (fun _ => 0))), ((a 39), .inl (cA 0, 8, .inl (fun _ => 0))), ((a 40), .inl (cA 0, 8, .inl (fun _ => 0))), ((a 41), .inl (cA 0, 6, .inl (fun _ => 0))), ((a 42), .inl (cA 0, 6, .inl (fun _ => 0))), ((a 43), .inl (cA 0, 6, .inl (fun _ => 0)))]
def adF (q0 : Nat) (a : Nat → Nat) (q1 : Nat) (a' : Nat → Nat) (kA vA tA b : Nat) (i : Nat) : Nat := cond (Nat.beq i 0) q0 (cond (Nat.ble i 29) (a i) (cond (Nat.beq i 30) q1 (cond (Nat.ble i 43) (a' i) (cond (Nat.beq i 100) kA (cond (Nat.beq i 101) vA (cond (Nat.beq i 102) tA b))))))
set_option maxRecDepth 100000 in
theorem mi_1 {α β : Type} (f : Nat → α → β) (t0 : α) : [t0].mapIdx f = [f 0 t0] := by
  simp only [List.mapIdx_cons, List.mapIdx_nil]
set_option maxRecDepth 100000 in
theorem mi_2 {α β : Type} (f : Nat → α → β) (t0 t1 : α) : [t0, t1].mapIdx f = [f 0 t0, f 1 t1] := by
  simp only [List.mapIdx_cons, List.mapIdx_nil]
set_option maxRecDepth 100000 in
theorem mi_3 {α β : Type} (f : Nat → α → β) (t0 t1 t2 : α) : [t0, t1, t2].mapIdx f = [f 0 t0, f 1 t1, f 2 t2] := by
  simp only [List.mapIdx_cons, List.mapIdx_nil]
set_option maxRecDepth 100000 in
theorem mi_4 {α β : Type} (f : Nat → α → β) (t0 t1 t2 t3 : α) : [t0, t1, t2, t3].mapIdx f = [f 0 t0, f 1 t1, f 2 t2, f 3 t3] := by
  simp only [List.mapIdx_cons, List.mapIdx_nil]
set_option maxRecDepth 100000 in
theorem mi_7 {α β : Type} (f : Nat → α → β) (t0 t1 t2 t3 t4 t5 t6 : α) : [t0, t1, t2, t3, t4, t5, t6].mapIdx f = [f 0 t0, f 1 t1, f 2 t2, f 3 t3, f 4 t4, f 5 t5, f 6 t6] := by
  simp only [List.mapIdx_cons, List.mapIdx_nil]
set_option maxRecDepth 100000 in
theorem mi_12 {α β : Type} (f : Nat → α → β) (t0 t1 t2 t3 t4 t5 t6 t7 t8 t9 t10 t11 : α) : [t0, t1, t2, t3, t4, t5, t6, t7, t8, t9, t10, t11].mapIdx f = [f 0 t0, f 1 t1, f 2 t2, f 3 t3, f 4 t4, f 5 t5, f 6 t6, f 7 t7, f 8 t8, f 9 t9, f 10 t10, f 11 t11] := by
  simp only [List.mapIdx_cons, List.mapIdx_nil]
set_option maxRecDepth 100000 in
theorem mi_32 {α β : Type} (f : Nat → α → β) (t0 t1 t2 t3 t4 t5 t6 t7 t8 t9 t10 t11 t12 t13 t14 t15 t16 t17 t18 t19 t20 t21 t22 t23 t24 t25 t26 t27 t28 t29 t30 t31 : α) : [t0, t1, t2, t3, t4, t5, t6, t7, t8, t9, t10, t11, t12, t13, t14, t15, t16, t17, t18, t19, t20, t21, t22, t23, t24, t25, t26, t27, t28, t29, t30, t31].mapIdx f = [f 0 t0, f 1 t1, f 2 t2, f 3 t3, f 4 t4, f 5 t5, f 6 t6, f 7 t7, f 8 t8, f 9 t9, f 10 t10, f 11 t11, f 12 t12, f 13 t13, f 14 t14, f 15 t15, f 16 t16, f 17 t17, f 18 t18, f 19 t19, f 20 t20, f 21 t21, f 22 t22, f 23 t23, f 24 t24, f 25 t25, f 26 t26, f 27 t27, f 28 t28, f 29 t29, f 30 t30, f 31 t31] := by
  simp only [List.mapIdx_cons, List.mapIdx_nil]
set_option maxRecDepth 100000 in
theorem mi_44 {α β : Type} (f : Nat → α → β) (t0 t1 t2 t3 t4 t5 t6 t7 t8 t9 t10 t11 t12 t13 t14 t15 t16 t17 t18 t19 t20 t21 t22 t23 t24 t25 t26 t27 t28 t29 t30 t31 t32 t33 t34 t35 t36 t37 t38 t39 t40 t41 t42 t43 : α) : [t0, t1, t2, t3, t4, t5, t6, t7, t8, t9, t10, t11, t12, t13, t14, t15, t16, t17, t18, t19, t20, t21, t22, t23, t24, t25, t26, t27, t28, t29, t30, t31, t32, t33, t34, t35, t36, t37, t38, t39, t40, t41, t42, t43].mapIdx f = [f 0 t0, f 1 t1, f 2 t2, f 3 t3, f 4 t4, f 5 t5, f 6 t6, f 7 t7, f 8 t8, f 9 t9, f 10 t10, f 11 t11, f 12 t12, f 13 t13, f 14 t14, f 15 t15, f 16 t16, f 17 t17, f 18 t18, f 19 t19, f 20 t20, f 21 t21, f 22 t22, f 23 t23, f 24 t24, f 25 t25, f 26 t26, f 27 t27, f 28 t28, f 29 t29, f 30 t30, f 31 t31, f 32 t32, f 33 t33, f 34 t34, f 35 t35, f 36 t36, f 37 t37, f 38 t38, f 39 t39, f 40 t40, f 41 t41, f 42 t42, f 43 t43] := by
  simp only [List.mapIdx_cons, List.mapIdx_nil]
set_option maxRecDepth 100000 in
set_option maxHeartbeats 4000000 in
theorem w_00 (cA : Nat → ClassId) (q0 q1 kA vA tA b : Nat) (a a' : Nat → Nat) : w8 cA q0 a ++ w9 cA q1 a' = z_w (adF q0 a q1 a' kA vA tA b) cA hz0 := by
  unfold w8 w9 z_w z_sh
  rw [mi_44]
  simp only [z_e, mi_1, mi_2, mi_3, mi_4, mi_7, mi_12, mi_32]
  rfl
