section ZQ
variable {y : MethodName} {cc : ByteArray} {nL : Nat} {ret : Option FieldType} {d : Nat} {K : Option Value → hp → Prop} {pc : Nat} {lv : List (Nat × Value)} {st : List Value} {h : hp}
theorem Z.callVi {y' : MethodName} {cc' : ByteArray} {nL' : Nat} {ret' : Option FieldType} {d' : Nat} {h1 : hp} {v : Value} {b idx n ci N : Nat} {As rest : List Value} {fs : List Nat} {T : u_T} (hd : decode cc pc = .ok (.invokevirtual idx, 3)) (hc : Cn y' cc' nL' ret' d' (.ref b :: As) h (z_eq (some v) h1)) (hlk : Cond.methodLink y.cls idx y' ∈ z_tb) (hy : z_yv y' cc' nL' ret' n) (hs : z_sh[b]? = some (.inr (ci, fs))) (hci : vwCl[ci]? = some (y'.cls, T, N)) (hn : As.length = n) (hst : st = As.reverse ++ .ref b :: rest) (hdp : d' + 1 ≤ d) (hnl : nL' ≤ 19) (hrest : (rest.map fun v => v.category).sum ≤ 8) (k : Z y cc nL ret d K (pc + 3) lv (v :: rest) h1) : Z y cc nL ret d K pc lv st h := Z.callV hd hc hlk hy hs hci hn hst hdp hnl hrest (fun r h' q => by obtain ⟨rfl, rfl⟩ := q; exact k)
theorem Z.callVv {y' : MethodName} {cc' : ByteArray} {nL' : Nat} {ret' : Option FieldType} {d' : Nat} {h1 : hp} {b idx n ci N : Nat} {As rest : List Value} {fs : List Nat} {T : u_T} (hd : decode cc pc = .ok (.invokevirtual idx, 3)) (hc : Cn y' cc' nL' ret' d' (.ref b :: As) h (z_eq none h1)) (hlk : Cond.methodLink y.cls idx y' ∈ z_tb) (hy : z_yv y' cc' nL' ret' n) (hs : z_sh[b]? = some (.inr (ci, fs))) (hci : vwCl[ci]? = some (y'.cls, T, N)) (hn : As.length = n) (hst : st = As.reverse ++ .ref b :: rest) (hdp : d' + 1 ≤ d) (hnl : nL' ≤ 19) (hrest : (rest.map fun v => v.category).sum ≤ 8) (k : Z y cc nL ret d K (pc + 3) lv rest h1) : Z y cc nL ret d K pc lv st h := Z.callV hd hc hlk hy hs hci hn hst hdp hnl hrest (fun r h' q => by obtain ⟨rfl, rfl⟩ := q; exact k)
theorem Z.callSi {y' : MethodName} {cc' : ByteArray} {nL' : Nat} {ret' : Option FieldType} {d' : Nat} {h1 : hp} {v : Value} {idx n : Nat} {As rest : List Value} (hd : decode cc pc = .ok (.invokestatic idx, 3)) (hc : Cn y' cc' nL' ret' d' As h (z_eq (some v) h1)) (hlk : Cond.methodLink y.cls idx y' ∈ z_tb) (hy : z_ys y' cc' nL' ret' n) (hn : As.length = n) (hst : st = As.reverse ++ rest) (hdp : d' + 1 ≤ d) (hnl : nL' ≤ 19) (hrest : (rest.map fun v => v.category).sum ≤ 8) (k : Z y cc nL ret d K (pc + 3) lv (v :: rest) h1) : Z y cc nL ret d K pc lv st h := Z.callS hd hc hlk hy hn hst hdp hnl hrest (fun r h' q => by obtain ⟨rfl, rfl⟩ := q; exact k)
theorem Z.callSv {y' : MethodName} {cc' : ByteArray} {nL' : Nat} {ret' : Option FieldType} {d' : Nat} {h1 : hp} {idx n : Nat} {As rest : List Value} (hd : decode cc pc = .ok (.invokestatic idx, 3)) (hc : Cn y' cc' nL' ret' d' As h (z_eq none h1)) (hlk : Cond.methodLink y.cls idx y' ∈ z_tb) (hy : z_ys y' cc' nL' ret' n) (hn : As.length = n) (hst : st = As.reverse ++ rest) (hdp : d' + 1 ≤ d) (hnl : nL' ≤ 19) (hrest : (rest.map fun v => v.category).sum ≤ 8) (k : Z y cc nL ret d K (pc + 3) lv rest h1) : Z y cc nL ret d K pc lv st h := Z.callS hd hc hlk hy hn hst hdp hnl hrest (fun r h' q => by obtain ⟨rfl, rfl⟩ := q; exact k)
theorem Z.callNi {cc' : ByteArray} {nL' : Nat} {ret' : Option FieldType} {d' : Nat} {h1 : hp} {v : Value} {idx n : Nat} {As rest : List Value} (hd : decode cc pc = .ok (.invokestatic idx, 3)) (hc : Cn yX8_isAmong cc' nL' ret' d' As h (z_eq (some v) h1)) (hlk : (y.cls = RX6 ∧ idx = 63) ∨ (y.cls = RX2 ∧ idx = 29) ∨ (y.cls = RX0 ∧ idx = 41)) (hy : z_ys yX8_isAmong cc' nL' ret' n) (hn : As.length = n) (hst : st = As.reverse ++ rest) (hdp : d' + 1 ≤ d) (hnl : nL' ≤ 19) (hrest : (rest.map fun v => v.category).sum ≤ 8) (k : Z y cc nL ret d K (pc + 3) lv (v :: rest) h1) : Z y cc nL ret d K pc lv st h := Z.callN hd hc hlk hy hn hst hdp hnl hrest (fun r h' q => by obtain ⟨rfl, rfl⟩ := q; exact k)
/-- truth values -/
def zb (b : Bool) : Int32 := cond b 1 0
theorem zb_nar (b : Bool) : narrow .boolean (.int (zb b)) = .int (zb b) := by cases b <;> rfl
theorem zb_0 {b : Bool} : zb b = 0 ↔ b = false := by cases b <;> decide
theorem Z.if_eq_b {b : Bool} {off : Int} {tgt : Nat} (hd : decode cc pc = .ok (.ifCond .eq off, 3)) (ht : (pc : Int) + off = (tgt : Int)) (kt : b = false → Z y cc nL ret d K tgt lv st h) (kf : b = true → Z y cc nL ret d K (pc + 3) lv st h) : Z y cc nL ret d K pc lv (.int (zb b) :: st) h :=
  Z.if_eq hd ht (fun q => kt (zb_0.mp q)) (fun q => kf (by cases b with | true => rfl | false => exact absurd rfl q))
theorem Z.if_ne_b {b : Bool} {off : Int} {tgt : Nat} (hd : decode cc pc = .ok (.ifCond .ne off, 3)) (ht : (pc : Int) + off = (tgt : Int)) (kt : b = true → Z y cc nL ret d K tgt lv st h) (kf : b = false → Z y cc nL ret d K (pc + 3) lv st h) : Z y cc nL ret d K pc lv (.int (zb b) :: st) h :=
  Z.if_ne hd ht (fun q => kt (by cases b with | true => rfl | false => exact absurd rfl q)) (fun q => kf (zb_0.mp q))
theorem Z.if_eq_bt {b : Bool} {off : Int} {tgt : Nat} (hd : decode cc pc = .ok (.ifCond .eq off, 3)) (ht : (pc : Int) + off = (tgt : Int)) (hb : b = false) (k : Z y cc nL ret d K tgt lv st h) : Z y cc nL ret d K pc lv (.int (zb b) :: st) h := Z.if_eq_t hd ht (zb_0.mpr hb) k
theorem Z.if_eq_bf {b : Bool} {off : Int} {tgt : Nat} (hd : decode cc pc = .ok (.ifCond .eq off, 3)) (ht : (pc : Int) + off = (tgt : Int)) (hb : b = true) (k : Z y cc nL ret d K (pc + 3) lv st h) : Z y cc nL ret d K pc lv (.int (zb b) :: st) h := Z.if_eq_f hd ht (by rw [zb_0, hb]; decide) k
theorem Z.if_ne_bt {b : Bool} {off : Int} {tgt : Nat} (hd : decode cc pc = .ok (.ifCond .ne off, 3)) (ht : (pc : Int) + off = (tgt : Int)) (hb : b = true) (k : Z y cc nL ret d K tgt lv st h) : Z y cc nL ret d K pc lv (.int (zb b) :: st) h := Z.if_ne_t hd ht (by rw [zb_0, hb]; decide) k
theorem Z.if_ne_bf {b : Bool} {off : Int} {tgt : Nat} (hd : decode cc pc = .ok (.ifCond .ne off, 3)) (ht : (pc : Int) + off = (tgt : Int)) (hb : b = false) (k : Z y cc nL ret d K (pc + 3) lv st h) : Z y cc nL ret d K pc lv (.int (zb b) :: st) h := Z.if_ne_f hd ht (zb_0.mpr hb) k
/-- System.arraycopy of eight ints -/
theorem Z.copy8 {i j : Nat} (hd : decode cc pc = .ok (.invokestatic 57, 3)) (hy : y.cls = RX6) (hs : z_sh[i]? = some (.inl (0, 8))) (hs2 : z_sh[j]? = some (.inl (0, 8))) (hdp : 1 ≤ d) (hrest : (st.map fun v => v.category).sum ≤ 8) (k : Z y cc nL ret d K (pc + 3) lv st (z_row h j (va_cpy (h.1 i) (h.1 j) 0 0 8))) : Z y cc nL ret d K pc lv (.int 8 :: .int 0 :: .ref j :: .int 0 :: .ref i :: st) h := by
  intro p l e s m args below meth c D ad cA A H locs ls cx hP hD hS hl
  obtain ⟨hx, hb, hml, hr, hlocks, hown, hts, hA, hK, hX⟩ := id cx
  obtain ⟨w1, w2, w3, w4⟩ := z_ac
  rw [hy] at hown
  have e2 : (z_w ad cA h).set j (ad j, .inl (cA 0, 8, .inl (va_cpy (h.1 i) (h.1 j) 0 0 8))) = z_w ad cA (z_row h j (va_cpy (h.1 i) (h.1 j) 0 0 8)) := z_w_set hs2 (by simp [z_e, z_row, va_up]) (fun _ _ hj => z_e_row hj)
  refine va_copyi (D := D) (tys := z_t cA) (rest := st.map (z_v ad)) (sp := 0) (dp := 0) (n := 8) (c0 := cA 0) (c1 := cA 0) (n0 := 8) (n1 := 8) (f := h.1 i) (g := h.1 j) (ty := .int) hx hb (by rw [hml]; exact hl.1.symm) hown (hts _ w1) (hts _ w2) (hts _ w3) (hts _ w4) hK hP hD hS i j 0 0 (z_w_at hs) (z_w_at hs2) rfl rfl rfl (by decide) (by decide) (by decide) (by decide) (by decide) (fun _ _ => rfl) hdp ?_ hd (fun H locs hP hD hS => ?_)
  · rw [z_cats]
    show _ + (nativeFrameWords "java/lang/System" "arraycopy" 5 + 11) ≤ 38 * d
    have : nativeFrameWords "java/lang/System" "arraycopy" 5 = 7 := by decide +kernel
    omega
  · have e3 : ((0 : Int32).toNatClampNeg) = 0 := by decide
    have e4 : ((8 : Int32).toNatClampNeg) = 8 := by decide
    rw [e3, e4, e2] at hP hD
    exact k p l e s m args below meth c D ad cA A H locs ls cx hP hD hS hl
/-- the text "gchpk" -/
theorem Z.ldcS (hd : decode cc pc = .ok (.ldc 11, 2)) (hy : y.cls = RX3) (k : Z y cc nL ret d K (pc + 2) lv (.ref 100 :: st) h) : Z y cc nL ret d K pc lv st h := by
  intro p l e s m args below meth c D ad cA A H locs ls cx hP hD hS hl
  have hown := cx.2.2.2.2.2.1
  rw [hy] at hown
  exact va_ldcS cx.1 cx.2.1 hown cx.2.2.2.2.2.2.2.2.2.2.2.2.1 hd (k p l e s m args below meth c D ad cA A H locs ls cx hP hD hS hl)
theorem Z.getS_v {idx : Nat} (hd : decode cc pc = .ok (.getfield idx, 3)) (hw : Cond.fieldLink y.cls idx "java/lang/String" "value" "[B" ∈ z_tb) (k : Z y cc nL ret d K (pc + 3) lv (.ref 101 :: st) h) : Z y cc nL ret d K pc lv (.ref 100 :: st) h := by
  intro p l e s m args below meth c D ad cA A H locs ls cx hP hD hS hl
  have hE := (cx.2.2.2.2.2.2.2.2.2.2.2.2.2.1.1 0 (by decide)).2.2.1
  exact vk_getf cx.1 cx.2.1 hE hS cx.2.2.2.2.2.1 (cx.2.2.2.2.2.2.1 _ hw) (fun _ q => q) hd (k p l e s m args below meth c D ad cA A H locs ls cx hP hD hS hl)
theorem Z.getS_c {idx : Nat} (hd : decode cc pc = .ok (.getfield idx, 3)) (hw : Cond.fieldLink y.cls idx "java/lang/String" "coder" "B" ∈ z_tb) (k : Z y cc nL ret d K (pc + 3) lv (.int 0 :: st) h) : Z y cc nL ret d K pc lv (.ref 100 :: st) h := by
  intro p l e s m args below meth c D ad cA A H locs ls cx hP hD hS hl
  have hE := (cx.2.2.2.2.2.2.2.2.2.2.2.2.2.1.1 0 (by decide)).2.1
  exact vk_getf cx.1 cx.2.1 hE hS cx.2.2.2.2.2.1 (cx.2.2.2.2.2.2.1 _ hw) (fun _ q => q) hd (k p l e s m args below meth c D ad cA A H locs ls cx hP hD hS hl)
theorem Z.alenS (hd : decode cc pc = .ok (.arraylength, 1)) (k : Z y cc nL ret d K (pc + 1) lv (.int 5 :: st) h) : Z y cc nL ret d K pc lv (.ref 101 :: st) h := by
  intro p l e s m args below meth c D ad cA A H locs ls cx hP hD hS hl
  obtain ⟨cell, h1, h2, h3, h4, h5, h6, h7⟩ := ((cx.2.2.2.2.2.2.2.2.2.2.2.2.2.1.1 0 (by decide)).2.2.2).kept hS.2.1
  exact W.alen (n := 5) cx.1 cx.2.1 h1 h2 h5 rfl rfl hd (k p l e s m args below meth c D ad cA A H locs ls cx hP hD hS hl)
theorem Z.baldS {j : Nat} (hd : decode cc pc = .ok (.baload, 1)) (hj : j < 5) (k : Z y cc nL ret d K (pc + 1) lv (.int (([103, 99, 104, 112, 107] : List Int32).getD j 0) :: st) h) : Z y cc nL ret d K pc lv (.int (nI j) :: .ref 101 :: st) h := by
  intro p l e s m args below meth c D ad cA A H locs ls cx hP hD hS hl
  obtain ⟨cell, h1, h2, h3, h4, h5, h6, h7⟩ := ((cx.2.2.2.2.2.2.2.2.2.2.2.2.2.1.1 0 (by decide)).2.2.2).kept hS.2.1
  have h4 : 5 ≤ cell.slots.size := h4
  have e1 : (nI j).toNatClampNeg = j := nI_clamp (by omega)
  refine W.bald (v := .int (([103, 99, 104, 112, 107] : List Int32).getD j 0)) cx.1 cx.2.1 h1 h2 h3 ?_ ?_ rfl rfl hd (k p l e s m args below meth c D ad cA A H locs ls cx hP hD hS hl)
  · rw [e1]
    rintro (q | q)
    · exact nI_pos (by omega) q
    · omega
  · rw [e1]
    exact h6 j hj
theorem Z.getsC {idx : Nat} (hd : decode cc pc = .ok (.getstatic idx, 3)) (hw : Cond.fieldLink y.cls idx "java/lang/String" "COMPACT_STRINGS" "Z" ∈ z_tb) (k : Z y cc nL ret d K (pc + 3) lv (.int 1 :: st) h) : Z y cc nL ret d K pc lv st h := by
  intro p l e s m args below meth c D ad cA A H locs ls cx hP hD hS hl
  exact va_gets cx.1 cx.2.1 cx.2.2.2.2.2.2.2.2.2.2.2.2.2.2.1 hS cx.2.2.2.2.2.1 (cx.2.2.2.2.2.2.1 _ hw) (fun _ q => q) hd (k p l e s m args below meth c D ad cA A H locs ls cx hP hD hS hl)
theorem Z.getsF {idx : Nat} (hd : decode cc pc = .ok (.getstatic idx, 3)) (hw : Cond.fieldLink y.cls idx "jdk/internal/util/Preconditions" "SIOOBE_FORMATTER" "Ljava/util/function/BiFunction;" ∈ z_tb) (k : ∀ vs : Value, (vs = .null ∨ vs = .ref 102) → Z y cc nL ret d K (pc + 3) lv (vs :: st) h) : Z y cc nL ret d K pc lv st h := by
  intro p l e s m args below meth c D ad cA A H locs ls cx hP hD hS hl
  obtain ⟨vs, h7, h8⟩ := cx.2.2.2.2.2.2.2.2.2.2.2.2.2.2.2
  exact va_gets cx.1 cx.2.1 h8 hS cx.2.2.2.2.2.1 (cx.2.2.2.2.2.2.1 _ hw) (fun _ q => q) hd (k vs h7 p l e s m args below meth c D ad cA A H locs ls cx hP hD hS hl)
theorem Z.callT {y' : MethodName} {cc' : ByteArray} {nL' : Nat} {ret' : Option FieldType} {d' : Nat} {h1 : hp} {v : Value} {idx n : Nat} {As rest : List Value} (hd : decode cc pc = .ok (.invokevirtual idx, 3)) (hc : Cn y' cc' nL' ret' d' (.ref 100 :: As) h (z_eq (some v) h1)) (hcl : y'.cls = "java/lang/String") (hlk : Cond.methodLink y.cls idx y' ∈ z_tb) (hy : z_yv y' cc' nL' ret' n) (hn : As.length = n) (hst : st = As.reverse ++ .ref 100 :: rest) (hdp : d' + 1 ≤ d) (hnl : nL' ≤ 19) (hrest : (rest.map fun v => v.category).sum ≤ 8)
    (k : Z y cc nL ret d K (pc + 3) lv (v :: rest) h1) : Z y cc nL ret d K pc lv st h := by
  subst hst
  intro p l e s m args below meth c D ad cA A H locs ls cx hP hD hS hl
  obtain ⟨hx, hb, hml, hr, hlocks, hown, hts, hA, hK, hX⟩ := id cx
  obtain ⟨w1, w2, w3, w4, w5, w6, w7⟩ := hy
  have hFc : ∀ q, va_A (z_w ad cA h) H.size q → A q := z_free (D := D) hA hD hS
  have hM := hc l D ad cA H.size
  have hrun := va_runV (R := z_rm d) (cells := 0) (slots := 0) (locs := locs) (below := below) (meth := meth) (e := e) (H := H) (C := y'.cls) (b := ad 100) (As := As.map (z_v ad)) (rest := rest.map (z_v ad)) (n := n) (index := idx) (g := F0 m pc ls ((As.reverse ++ .ref 100 :: rest).map (z_v ad))) ⟨hx, hb, hml, hown, hts⟩ hM
    ⟨callB_of n hts (z_goodIn (z_cons w4)) rfl rfl rfl (hts _ w3) (hts _ hlk) ⟨w5, w6, w7⟩ (z_room hdp hnl), hts _ w1, hts _ w2⟩
    ⟨z_blind, by rw [hcl]; exact vk_recv (i := 0) hX.2.2.2.2.1 (by decide) hS, fun U hU hW => ⟨rfl, by rw [hU], by rw [hU]; exact hP, hK.moved hW.alike, hD.weaken (fun _ _ _ _ => trivial), by rw [hU]; exact hX.go hW hS.2.1 hFc⟩⟩
    rfl (by rw [List.length_map]; exact hn) hl.1 (by rw [z_stk]; rfl) (lv_room (by rw [z_cats]; exact hrest)) hd ⟨Nat.zero_le _, Nat.zero_le _⟩
  refine z_call hrun hS hFc hFc (fun r h' H1 locs1 hk hP hD hS _ => ?_)
  obtain ⟨rfl, rfl⟩ := hk
  rw [z_ret]
  exact k p l e s m args below meth c D ad cA A H1 locs1 ls cx hP hD hS hl
def maxI (x y : Int32) : Int32 := if x < y then y else x
theorem Z.mmax {idx : Nat} {a b : Int32} (hd : decode cc pc = .ok (.invokestatic idx, 3)) (hlk : Cond.methodLink y.cls idx yJ9_max_7cf53 ∈ z_tb) (hdp : 1 ≤ d) (hrest : (st.map fun v => v.category).sum ≤ 8) (k : Z y cc nL ret d K (pc + 3) lv (.int (maxI a b) :: st) h) : Z y cc nL ret d K pc lv (.int b :: .int a :: st) h := by
  intro p l e s m args below meth c D ad cA A H locs ls cx hP hD hS hl
  obtain ⟨hx, hb, hml, hr, hlocks, hown, hts, hA, hK, hX⟩ := id cx
  obtain ⟨w1, w3, w4, w5, w6, w7⟩ := zs_J9_max_7cf53
  refine va_mmax (rest := st.map (z_v ad)) hx hb (by rw [hml]; exact hl.1.symm) hown (hts _ hlk) (hts _ w1) (hts _ w3) (hts _ w4) hdp ?_ (Nat.zero_le _) (Nat.zero_le _) hd (k p l e s m args below meth c D ad cA A H locs ls cx hP hD hS hl)
  rw [z_cats]
  show _ + 13 ≤ 38 * d
  omega
end ZQ
