set_option maxRecDepth 100000 in
set_option maxHeartbeats 400000 in
theorem l_X9_size {h : hp} (m : Nat) (hm : m < 2 ^ 31) : ∀ (r i : Nat) , i + r = 10 → Z yX9_size cX9_size 3 (some .int) 0 (z_eq (some (.int (nI (pop m)))) h) 4 [(0, .int (nI m)), (1, .int (nI (cntB m.testBit i))), (2, .int (nI i))] [] h := by
  intro r
  induction r with
  | zero =>
    intro i hi
    obtain rfl : 10 = i := by omega
    refine Z.iload_n (pc := 4) (i := 2) dX9_size_4 rfl rfl ?_
    refine Z.bipush (pc := 5) (v := (nI 10)) dX9_size_5 (by decide) ?_
    refine Z.icmp_ge_t (pc := 7) (tgt := 24) dX9_size_7 (by decide) (nI_le (Nat.le_refl 10) (by decide)) ?_
    refine Z.iload_n (pc := 24) (i := 1) dX9_size_24 rfl rfl ?_
    refine Z.iret (pc := 25) (ty := .int) dX9_size_25 rfl rfl ?_
    exact ⟨rfl, rfl⟩
  | succ r ih =>
    intro i hi
    refine Z.iload_n (pc := 4) (i := 2) dX9_size_4 rfl rfl ?_
    refine Z.bipush (pc := 5) (v := (nI 10)) dX9_size_5 (by decide) ?_
    refine Z.icmp_ge_f (pc := 7) (tgt := 24) dX9_size_7 (by decide) (nI_ge (by omega) (by decide)) ?_
    refine Z.iload_n (pc := 10) (i := 1) dX9_size_10 rfl rfl ?_
    refine Z.iload_n (pc := 11) (i := 0) dX9_size_11 rfl rfl ?_
    refine Z.iload_n (pc := 12) (i := 2) dX9_size_12 rfl rfl ?_
    refine Z.ishr (pc := 13) dX9_size_13 ?_
    refine Z.iconst (pc := 14) (v := (1)) dX9_size_14 (by decide) ?_
    refine Z.iand (pc := 15) dX9_size_15 ?_
    refine Z.top (nb_bit hm (by omega)) ?_
    refine Z.iadd (pc := 16) dX9_size_16 ?_
    refine Z.top ((zb_add _ _).trans (show _ = nI (cntB m.testBit (i + 1)) from rfl)) ?_
    refine Z.istore_n (pc := 17) (i := 1) dX9_size_17 rfl (by decide) rfl ?_
    refine Z.iinc (pc := 18) (i := 2) (v := (nI (i + 1))) dX9_size_18 rfl (by exact ii_1 i) (by decide) rfl ?_
    refine Z.goto (pc := 21) (tgt := 4) dX9_size_21 (by decide) ?_
    exact ih (i + 1) (by omega)
set_option maxRecDepth 100000 in
set_option maxHeartbeats 400000 in
theorem c_X9_size {h : hp} (m : Nat) (hm : m < 2 ^ 31)  : Cn yX9_size cX9_size 3 (some .int) 0 [.int (nI m)] h (z_eq (some (.int (nI (pop m)))) h) := by
  refine Cn.of (by decide) (Nat.le_of_ble_eq_true rfl) ?_
  refine Z.eqL (lv' := [(0, .int (nI m))]) rfl ?_
  refine Z.iconst (pc := 0) (v := (nI 0)) dX9_size_0 (by decide) ?_
  refine Z.istore_n (pc := 1) (i := 1) dX9_size_1 rfl (by decide) rfl ?_
  refine Z.iconst (pc := 2) (v := (nI 0)) dX9_size_2 (by decide) ?_
  refine Z.istore_n (pc := 3) (i := 2) dX9_size_3 rfl (by decide) rfl ?_
  exact l_X9_size m hm 10 0 rfl
set_option maxRecDepth 100000 in
set_option maxHeartbeats 400000 in
theorem l_X9_divisor {h : hp} (G : Nat) (u v : Int32) : ∀ (r a b : Nat), b < r → a < 2 ^ 31 → b < 2 ^ 31 → Nat.gcd a b = G → Z yX9_divisor cX9_divisor 5 (some .int) 0 (z_eq (some (.int (nI G))) h) 4 [(0, .int u), (1, .int v), (2, .int (nI a)), (3, .int (nI b))] [] h := by
  intro r
  induction r with
  | zero => intro a b h0; exact absurd h0 (Nat.not_lt_zero b)
  | succ r ih =>
    intro a b hr ha hb hG
    refine Z.iload_n (pc := 4) (i := 3) dX9_divisor_4 rfl rfl ?_
    refine Z.if_eq (pc := 5) (tgt := 21) dX9_divisor_5 (by decide) (fun c5 => ?_) (fun c5 => ?_)
    · have b0 : b = 0 := (nI_0' (by omega)).mp c5
      refine Z.iload_n (pc := 21) (i := 2) dX9_divisor_21 rfl rfl ?_
      refine Z.iret (pc := 22) (ty := .int) dX9_divisor_22 rfl rfl ?_
      exact ⟨by rw [← hG, b0, Nat.gcd_zero_right], rfl⟩
    · have b0 : 0 < b := Nat.pos_of_ne_zero (fun q => c5 (by rw [q]; rfl))
      refine Z.iload_n (pc := 8) (i := 2) dX9_divisor_8 rfl rfl ?_
      refine Z.iload_n (pc := 9) (i := 3) dX9_divisor_9 rfl rfl ?_
      refine Z.irem (pc := 10) dX9_divisor_10 c5 ?_
      refine Z.top (pk_rem ha b0 hb) ?_
      refine Z.istore (pc := 11) (i := 4) dX9_divisor_11 (by decide) rfl ?_
      refine Z.iload_n (pc := 13) (i := 3) dX9_divisor_13 rfl rfl ?_
      refine Z.istore_n (pc := 14) (i := 2) dX9_divisor_14 rfl (by decide) rfl ?_
      refine Z.iload (pc := 15) (i := 4) dX9_divisor_15 rfl ?_
      refine Z.istore_n (pc := 17) (i := 3) dX9_divisor_17 rfl (by decide) rfl ?_
      refine Z.goto (pc := 18) (tgt := 4) dX9_divisor_18 (by decide) ?_
      refine Z.drop 4 ?_
      exact ih b (a % b) (by have := Nat.mod_lt a b0; omega) hb (Nat.lt_trans (Nat.mod_lt a b0) hb) ((gcd_s a b).trans hG)
set_option maxRecDepth 100000 in
set_option maxHeartbeats 400000 in
theorem c_X9_divisor {h : hp} (a b : Nat) (ha : a < 2 ^ 31) (hb : b < 2 ^ 31)  : Cn yX9_divisor cX9_divisor 5 (some .int) 0 [.int (nI a), .int (nI b)] h (z_eq (some (.int (nI (Nat.gcd a b)))) h) := by
  refine Cn.of (by decide) (Nat.le_of_ble_eq_true rfl) ?_
  refine Z.eqL (lv' := [(0, .int (nI a)), (1, .int (nI b))]) rfl ?_
  refine Z.iload_n (pc := 0) (i := 0) dX9_divisor_0 rfl rfl ?_
  refine Z.istore_n (pc := 1) (i := 2) dX9_divisor_1 rfl (by decide) rfl ?_
  refine Z.iload_n (pc := 2) (i := 1) dX9_divisor_2 rfl rfl ?_
  refine Z.istore_n (pc := 3) (i := 3) dX9_divisor_3 rfl (by decide) rfl ?_
  exact l_X9_divisor _ _ _ (b + 1) a b (by omega) ha hb rfl
set_option maxRecDepth 100000 in
set_option maxHeartbeats 400000 in
theorem c_X9_all {h : hp} {n hr : Nat} {k s f : zF} (hM : Mm h n hr k s f)  : Cn yX9_all cX9_all 1 (some .int) 0 [.ref 30] h (z_eq (some (.int (nI (2 ^ n - 1)))) h) := by
  refine Cn.of (by decide) (Nat.le_of_ble_eq_true rfl) ?_
  refine Z.eqL (lv' := [(0, .ref 30)]) rfl ?_
  refine Z.iconst (pc := 0) (v := (nI 1)) dX9_all_0 (by decide) ?_
  refine Z.aload_n (pc := 1) (i := 0) dX9_all_1 rfl rfl ?_
  refine Z.getIv (pc := 2) dX9_all_2 zf_X9_83 rfl rfl hM.1 ?_
  refine Z.ishl (pc := 5) dX9_all_5 ?_
  refine Z.top (nb_shl (Nat.lt_of_le_of_lt hM.2.2.2.1.1 (by decide))) ?_
  refine Z.iconst (pc := 6) (v := (1)) dX9_all_6 (by decide) ?_
  refine Z.isub (pc := 7) dX9_all_7 ?_
  refine Z.top (nb_pow1) ?_
  refine Z.iret (pc := 8) (ty := .int) dX9_all_8 rfl rfl ?_
  exact ⟨rfl, rfl⟩
set_option maxRecDepth 100000 in
set_option maxHeartbeats 400000 in
theorem c_X9_gone {h : hp} {n hr : Nat} {k s f : zF} (hM : Mm h n hr k s f)  : Cn yX9_gone cX9_gone 1 (some .int) 1 [.ref 30] h (z_eq (some (.int (nI (gon n hr)))) h) := by
  refine Cn.of (by decide) (Nat.le_of_ble_eq_true rfl) ?_
  refine Z.eqL (lv' := [(0, .ref 30)]) rfl ?_
  refine Z.aload_n (pc := 0) (i := 0) dX9_gone_0 rfl rfl ?_
  refine Z.callVi (pc := 1) dX9_gone_1 (c_X9_all hM) zm_X9_111 zv_X9_all rfl rfl rfl rfl (by decide) (by decide) (Nat.le_of_ble_eq_true rfl) ?_
  refine Z.aload_n (pc := 4) (i := 0) dX9_gone_4 rfl rfl ?_
  refine Z.getIv (pc := 5) dX9_gone_5 zf_X9_89 rfl rfl hM.2.1 ?_
  refine Z.iconst (pc := 8) (v := (-1)) dX9_gone_8 (by decide) ?_
  refine Z.ixor (pc := 9) dX9_gone_9 ?_
  refine Z.iand (pc := 10) dX9_gone_10 ?_
  refine Z.top (nb_dif _ _) ?_
  refine Z.iret (pc := 11) (ty := .int) dX9_gone_11 rfl rfl ?_
  exact ⟨rfl, rfl⟩
set_option maxRecDepth 100000 in
set_option maxHeartbeats 400000 in
theorem c_X9_isGuest {h : hp} {n hr : Nat} {k s f : zF} (hM : Mm h n hr k s f) (g : Int32)  : Cn yX9_isGuest cX9_isGuest 2 (some .boolean) 1 [.ref 30, .int g] h (z_eq (some (.int (zb (gB n g)))) h) := by
  refine Cn.of (by decide) (Nat.le_of_ble_eq_true rfl) ?_
  refine Z.eqL (lv' := [(0, .ref 30), (1, .int g)]) rfl ?_
  refine Z.iload_n (pc := 0) (i := 1) dX9_isGuest_0 rfl rfl ?_
  refine Z.iconst (pc := 1) (v := (0)) dX9_isGuest_1 (by decide) ?_
  refine Z.aload_n (pc := 2) (i := 0) dX9_isGuest_2 rfl rfl ?_
  refine Z.getIv (pc := 3) dX9_isGuest_3 zf_X9_83 rfl rfl hM.1 ?_
  refine Z.iconst (pc := 6) (v := (1)) dX9_isGuest_6 (by decide) ?_
  refine Z.isub (pc := 7) dX9_isGuest_7 ?_
  refine Z.callSi (pc := 8) dX9_isGuest_8 (c_X9_within _ _ _) zm_X9_50 zs_X9_within rfl rfl (by decide) (by decide) (Nat.le_of_ble_eq_true rfl) ?_
  rw [ig_gB hM.2.2.2.1.1]
  refine Z.iret (pc := 11) (ty := .boolean) dX9_isGuest_11 rfl (by first | rfl | exact zb_nar _) ?_
  exact ⟨rfl, rfl⟩
set_option maxRecDepth 100000 in
set_option maxHeartbeats 400000 in
theorem c_X9_needs {h : hp} {n hr : Nat} {k s f : zF} (hM : Mm h n hr k s f) (g : Nat) (hg : g < n)  : Cn yX9_needs cX9_needs 2 (some .int) 1 [.ref 30, .int (nI g)] h (z_eq (some (.int (ndsI (k g) (s g)))) h) := by
  have hn8 := hM.2.2.2.1.1
  have hp8 := p8 hn8
  have hlt := hM.2.2.1
  refine Cn.of (by decide) (Nat.le_of_ble_eq_true rfl) ?_
  refine Z.eqL (lv' := [(0, .ref 30), (1, .int (nI g))]) rfl ?_
  refine Z.aload_n (pc := 0) (i := 0) dX9_needs_0 rfl rfl ?_
  refine Z.getR (pc := 1) dX9_needs_1 zf_X9_7 rfl rfl ?_
  refine Z.iload_n (pc := 4) (i := 1) dX9_needs_4 rfl rfl ?_
  refine Z.iald (pc := 5) dX9_needs_5 rfl (by omega) (by decide) ?_
  refine Z.top (show _ = k g from congrFun hM.2.2.2.2.1 g) ?_
  refine Z.aload_n (pc := 6) (i := 0) dX9_needs_6 rfl rfl ?_
  refine Z.getR (pc := 7) dX9_needs_7 zf_X9_13 rfl rfl ?_
  refine Z.iload_n (pc := 10) (i := 1) dX9_needs_10 rfl rfl ?_
  refine Z.iald (pc := 11) dX9_needs_11 rfl (by omega) (by decide) ?_
  refine Z.top (show _ = s g from congrFun hM.2.2.2.2.2.1 g) ?_
  refine Z.callSi (pc := 12) dX9_needs_12 (c_X9_needsBy _ _ (hM.2.2.2.1.2.1 g hg)) zm_X9_101 zs_X9_needsBy rfl rfl (by decide) (by decide) (Nat.le_of_ble_eq_true rfl) ?_
  refine Z.iret (pc := 15) (ty := .int) dX9_needs_15 rfl rfl ?_
  exact ⟨rfl, rfl⟩
set_option maxRecDepth 100000 in
set_option maxHeartbeats 400000 in
theorem c_X9_counts {h : hp} {n hr : Nat} {k s f : zF} (hM : Mm h n hr k s f) (g : Nat) (hg : g < 8)  : Cn yX9_counts cX9_counts 2 (some .int) 0 [.ref 30, .int (nI g)] h (z_eq (some (.int (ctsI (k g)))) h) := by
  refine Cn.of (by decide) (Nat.le_of_ble_eq_true rfl) ?_
  refine Z.eqL (lv' := [(0, .ref 30), (1, .int (nI g))]) rfl ?_
  refine Z.aload_n (pc := 0) (i := 0) dX9_counts_0 rfl rfl ?_
  refine Z.getR (pc := 1) dX9_counts_1 zf_X9_7 rfl rfl ?_
  refine Z.iload_n (pc := 4) (i := 1) dX9_counts_4 rfl rfl ?_
  refine Z.iald (pc := 5) dX9_counts_5 rfl (by omega) (by decide) ?_
  refine Z.top (show _ = k g from congrFun hM.2.2.2.2.1 g) ?_
  refine Z.iconst (pc := 6) (v := (4)) dX9_counts_6 (by decide) ?_
  refine Z.icmp_ne (pc := 7) (tgt := 14) dX9_counts_7 (by decide) (fun c7 => ?_) (fun c7 => ?_)
  · refine Z.iconst (pc := 14) (v := (1)) dX9_counts_14 (by decide) ?_
    refine Z.iret (pc := 15) (ty := .int) dX9_counts_15 rfl rfl ?_
    exact ⟨by simp [ctsI, c7], rfl⟩
  · refine Z.iconst (pc := 10) (v := (2)) dX9_counts_10 (by decide) ?_
    refine Z.goto (pc := 11) (tgt := 15) dX9_counts_11 (by decide) ?_
    refine Z.iret (pc := 15) (ty := .int) dX9_counts_15 rfl rfl ?_
    exact ⟨by simp [ctsI, c7], rfl⟩
set_option maxRecDepth 100000 in
set_option maxHeartbeats 400000 in
theorem l_X9_countsOf {h : hp} {n hr : Nat} {k s f : zF} (hM : Mm h n hr k s f) (m : Nat) (hm : m < 2 ^ n) : ∀ (r i : Nat) (a : Int32), i + r = n → a = sumI (fun i => cond (m.testBit i) (ctsI (k i)) 0) i → Z yX9_countsOf cX9_countsOf 4 (some .int) 1 (z_eq (some (.int (cntI k m))) h) 4 [(0, .ref 30), (1, .int (nI m)), (2, .int a), (3, .int (nI i))] [] h := by
  have hn8 := hM.2.2.2.1.1
  have hp8 := p8 hn8
  have hlt := hM.2.2.1
  intro r
  induction r with
  | zero =>
    intro i a hi ha
    obtain rfl : n = i := by omega
    refine Z.iload_n (pc := 4) (i := 3) dX9_countsOf_4 rfl rfl ?_
    refine Z.aload_n (pc := 5) (i := 0) dX9_countsOf_5 rfl rfl ?_
    refine Z.getIv (pc := 6) dX9_countsOf_6 zf_X9_83 rfl rfl hM.1 ?_
    refine Z.icmp_ge_t (pc := 9) (tgt := 38) dX9_countsOf_9 (by decide) (nI_le (Nat.le_refl _) (by omega)) ?_
    refine Z.iload_n (pc := 38) (i := 2) dX9_countsOf_38 rfl rfl ?_
    refine Z.iret (pc := 39) (ty := .int) dX9_countsOf_39 rfl rfl ?_
    exact ⟨by rw [ha]; exact congrArg (fun x => some (Value.int x)) (cntM_eq hn8 hm), rfl⟩
  | succ r ih =>
    intro i a hi ha
    refine Z.iload_n (pc := 4) (i := 3) dX9_countsOf_4 rfl rfl ?_
    refine Z.aload_n (pc := 5) (i := 0) dX9_countsOf_5 rfl rfl ?_
    refine Z.getIv (pc := 6) dX9_countsOf_6 zf_X9_83 rfl rfl hM.1 ?_
    refine Z.icmp_ge_f (pc := 9) (tgt := 38) dX9_countsOf_9 (by decide) (nI_ge (by omega) (by omega)) ?_
    refine Z.iload_n (pc := 12) (i := 2) dX9_countsOf_12 rfl rfl ?_
    refine Z.iload_n (pc := 13) (i := 1) dX9_countsOf_13 rfl rfl ?_
    refine Z.iload_n (pc := 14) (i := 3) dX9_countsOf_14 rfl rfl ?_
    refine Z.callSi (pc := 15) dX9_countsOf_15 (c_X9_isIn m i (by omega) (l31 hm hn8)) zm_X9_105 zs_X9_isIn rfl rfl (by decide) (by decide) (Nat.le_of_ble_eq_true rfl) ?_
    refine Z.if_eq_b (pc := 18) (tgt := 29) dX9_countsOf_18 (by decide) (fun c18 => ?_) (fun c18 => ?_)
    · have e : (fun i => cond (m.testBit i) (ctsI (k i)) 0) i = 0 := by simp only [c18, cond_false]
      refine Z.iconst (pc := 29) (v := (0)) dX9_countsOf_29 (by decide) ?_
      refine Z.iadd (pc := 30) dX9_countsOf_30 ?_
      refine Z.istore_n (pc := 31) (i := 2) dX9_countsOf_31 rfl (by decide) rfl ?_
      refine Z.iinc (pc := 32) (i := 3) (v := (nI (i + 1))) dX9_countsOf_32 rfl (by exact ii_1 i) (by decide) rfl ?_
      refine Z.goto (pc := 35) (tgt := 4) dX9_countsOf_35 (by decide) ?_
      exact ih (i + 1) _ (by omega) (sumI_t ha e)
    · have e : (fun i => cond (m.testBit i) (ctsI (k i)) 0) i = ctsI (k i) := by simp only [c18, cond_true]
      refine Z.aload_n (pc := 21) (i := 0) dX9_countsOf_21 rfl rfl ?_
      refine Z.iload_n (pc := 22) (i := 3) dX9_countsOf_22 rfl rfl ?_
      refine Z.callVi (pc := 23) dX9_countsOf_23 (c_X9_counts hM i (by omega)) zm_X9_108 zv_X9_counts rfl rfl rfl rfl (by decide) (by decide) (Nat.le_of_ble_eq_true rfl) ?_
      refine Z.goto (pc := 26) (tgt := 30) dX9_countsOf_26 (by decide) ?_
      refine Z.iadd (pc := 30) dX9_countsOf_30 ?_
      refine Z.istore_n (pc := 31) (i := 2) dX9_countsOf_31 rfl (by decide) rfl ?_
      refine Z.iinc (pc := 32) (i := 3) (v := (nI (i + 1))) dX9_countsOf_32 rfl (by exact ii_1 i) (by decide) rfl ?_
      refine Z.goto (pc := 35) (tgt := 4) dX9_countsOf_35 (by decide) ?_
      exact ih (i + 1) _ (by omega) (sumI_t ha e)
set_option maxRecDepth 100000 in
set_option maxHeartbeats 400000 in
theorem c_X9_countsOf {h : hp} {n hr : Nat} {k s f : zF} (hM : Mm h n hr k s f) (m : Nat) (hm : m < 2 ^ n)  : Cn yX9_countsOf cX9_countsOf 4 (some .int) 1 [.ref 30, .int (nI m)] h (z_eq (some (.int (cntI k m))) h) := by
  refine Cn.of (by decide) (Nat.le_of_ble_eq_true rfl) ?_
  refine Z.eqL (lv' := [(0, .ref 30), (1, .int (nI m))]) rfl ?_
  refine Z.iconst (pc := 0) (v := (0)) dX9_countsOf_0 (by decide) ?_
  refine Z.istore_n (pc := 1) (i := 2) dX9_countsOf_1 rfl (by decide) rfl ?_
  refine Z.iconst (pc := 2) (v := (nI 0)) dX9_countsOf_2 (by decide) ?_
  refine Z.istore_n (pc := 3) (i := 3) dX9_countsOf_3 rfl (by decide) rfl ?_
  exact l_X9_countsOf hM m hm n 0 0 (by omega) rfl
set_option maxRecDepth 100000 in
set_option maxHeartbeats 400000 in
theorem c_X9_othersFor {h : hp} {n hr : Nat} {k s f : zF} (hM : Mm h n hr k s f) (m : Nat) (hm : m < 2 ^ n) (g : Nat) (hg : g < 8)  : Cn yX9_othersFor cX9_othersFor 3 (some .int) 2 [.ref 30, .int (nI g), .int (nI m)] h (z_eq (some (.int (cntI k (dif (m ||| gon n hr) (2 ^ g))))) h) := by
  refine Cn.of (by decide) (Nat.le_of_ble_eq_true rfl) ?_
  refine Z.eqL (lv' := [(0, .ref 30), (1, .int (nI g)), (2, .int (nI m))]) rfl ?_
  refine Z.aload_n (pc := 0) (i := 0) dX9_othersFor_0 rfl rfl ?_
  refine Z.iload_n (pc := 1) (i := 2) dX9_othersFor_1 rfl rfl ?_
  refine Z.aload_n (pc := 2) (i := 0) dX9_othersFor_2 rfl rfl ?_
  refine Z.callVi (pc := 3) dX9_othersFor_3 (c_X9_gone hM) zm_X9_114 zv_X9_gone rfl rfl rfl rfl (by decide) (by decide) (Nat.le_of_ble_eq_true rfl) ?_
  refine Z.ior (pc := 6) dX9_othersFor_6 ?_
  refine Z.top (nb_or _ _) ?_
  refine Z.iconst (pc := 7) (v := (nI 1)) dX9_othersFor_7 (by decide) ?_
  refine Z.iload_n (pc := 8) (i := 1) dX9_othersFor_8 rfl rfl ?_
  refine Z.ishl (pc := 9) dX9_othersFor_9 ?_
  refine Z.top (nb_shl (by omega)) ?_
  refine Z.iconst (pc := 10) (v := (-1)) dX9_othersFor_10 (by decide) ?_
  refine Z.ixor (pc := 11) dX9_othersFor_11 ?_
  refine Z.iand (pc := 12) dX9_othersFor_12 ?_
  refine Z.top (nb_dif _ _) ?_
  refine Z.callVi (pc := 13) dX9_othersFor_13 (c_X9_countsOf hM _ (dif_lt (or_lt hm (gon_lt n hr)))) zm_X9_117 zv_X9_countsOf rfl rfl rfl rfl (by decide) (by decide) (Nat.le_of_ble_eq_true rfl) ?_
  refine Z.iret (pc := 16) (ty := .int) dX9_othersFor_16 rfl rfl ?_
  exact ⟨rfl, rfl⟩
set_option maxRecDepth 100000 in
set_option maxHeartbeats 400000 in
theorem c_X9_hasFriend {h : hp} {n hr : Nat} {k s f : zF} (hM : Mm h n hr k s f) (m : Nat) (hm : m < 2 ^ n) (g : Nat) (hg : g < n)  : Cn yX9_hasFriend cX9_hasFriend 3 (some .boolean) 2 [.ref 30, .int (nI g), .int (nI m)] h (z_eq (some (.int (zb (frB f (m ||| gon n hr) g)))) h) := by
  have hn8 := hM.2.2.2.1.1
  have hp8 := p8 hn8
  have hlt := hM.2.2.1
  have hF := hM.2.2.2.1.2.2.2 g hg
  generalize hfe : f g = fg at hF
  refine Cn.of (by decide) (Nat.le_of_ble_eq_true rfl) ?_
  refine Z.eqL (lv' := [(0, .ref 30), (1, .int (nI g)), (2, .int (nI m))]) rfl ?_
  refine Z.aload_n (pc := 0) (i := 0) dX9_hasFriend_0 rfl rfl ?_
  refine Z.getR (pc := 1) dX9_hasFriend_1 zf_X9_16 rfl rfl ?_
  refine Z.iload_n (pc := 4) (i := 1) dX9_hasFriend_4 rfl rfl ?_
  refine Z.iald (pc := 5) dX9_hasFriend_5 rfl (by omega) (by decide) ?_
  refine Z.top ((show _ = f g from congrFun hM.2.2.2.2.2.2 g).trans hfe) ?_
  refine Z.iconst (pc := 6) (v := (-1)) dX9_hasFriend_6 (by decide) ?_
  refine Z.icmp_eq (pc := 7) (tgt := 28) dX9_hasFriend_7 (by decide) (fun c7 => ?_) (fun c7 => ?_)
  · subst c7
    refine Z.iconst (pc := 28) (v := (1)) dX9_hasFriend_28 (by decide) ?_
    refine Z.goto (pc := 29) (tgt := 33) dX9_hasFriend_29 (by decide) ?_
    refine Z.iret (pc := 33) (ty := .boolean) dX9_hasFriend_33 rfl (by first | rfl | exact zb_nar _) ?_
    refine ⟨?_, rfl⟩
    first | (refine zb_t rfl ?_; unfold frB; rw [hfe]; simp; done) | (refine zb_t rfl ?_; unfold frB; rw [hfe, nI_clamp (by omega), c25]; simp; done) | (refine zb_f rfl ?_; unfold frB; rw [hfe, nI_clamp (by omega), c25]; simp [c7]; done)
  · obtain ⟨j, hj, rfl⟩ := hF.resolve_left c7
    refine Z.iload_n (pc := 10) (i := 2) dX9_hasFriend_10 rfl rfl ?_
    refine Z.aload_n (pc := 11) (i := 0) dX9_hasFriend_11 rfl rfl ?_
    refine Z.callVi (pc := 12) dX9_hasFriend_12 (c_X9_gone hM) zm_X9_114 zv_X9_gone rfl rfl rfl rfl (by decide) (by decide) (Nat.le_of_ble_eq_true rfl) ?_
    refine Z.ior (pc := 15) dX9_hasFriend_15 ?_
    refine Z.top (nb_or _ _) ?_
    refine Z.aload_n (pc := 16) (i := 0) dX9_hasFriend_16 rfl rfl ?_
    refine Z.getR (pc := 17) dX9_hasFriend_17 zf_X9_16 rfl rfl ?_
    refine Z.iload_n (pc := 20) (i := 1) dX9_hasFriend_20 rfl rfl ?_
    refine Z.iald (pc := 21) dX9_hasFriend_21 rfl (by omega) (by decide) ?_
    refine Z.top ((show _ = f g from congrFun hM.2.2.2.2.2.2 g).trans hfe) ?_
    refine Z.callSi (pc := 22) dX9_hasFriend_22 (c_X9_isIn _ j (by omega) (l31 (or_lt hm (gon_lt n hr)) hn8)) zm_X9_105 zs_X9_isIn rfl rfl (by decide) (by decide) (Nat.le_of_ble_eq_true rfl) ?_
    refine Z.if_eq_b (pc := 25) (tgt := 32) dX9_hasFriend_25 (by decide) (fun c25 => ?_) (fun c25 => ?_)
    · refine Z.iconst (pc := 32) (v := (0)) dX9_hasFriend_32 (by decide) ?_
      refine Z.iret (pc := 33) (ty := .boolean) dX9_hasFriend_33 rfl (by first | rfl | exact zb_nar _) ?_
      refine ⟨?_, rfl⟩
      first | (refine zb_t rfl ?_; unfold frB; rw [hfe]; simp; done) | (refine zb_t rfl ?_; unfold frB; rw [hfe, nI_clamp (by omega), c25]; simp; done) | (refine zb_f rfl ?_; unfold frB; rw [hfe, nI_clamp (by omega), c25]; simp [c7]; done)
    · refine Z.iconst (pc := 28) (v := (1)) dX9_hasFriend_28 (by decide) ?_
      refine Z.goto (pc := 29) (tgt := 33) dX9_hasFriend_29 (by decide) ?_
      refine Z.iret (pc := 33) (ty := .boolean) dX9_hasFriend_33 rfl (by first | rfl | exact zb_nar _) ?_
      refine ⟨?_, rfl⟩
      first | (refine zb_t rfl ?_; unfold frB; rw [hfe]; simp; done) | (refine zb_t rfl ?_; unfold frB; rw [hfe, nI_clamp (by omega), c25]; simp; done) | (refine zb_f rfl ?_; unfold frB; rw [hfe, nI_clamp (by omega), c25]; simp [c7]; done)
set_option maxRecDepth 100000 in
set_option maxHeartbeats 400000 in
theorem c_X9_canGo {h : hp} {n hr : Nat} {k s f : zF} (hM : Mm h n hr k s f) (m : Nat) (hm : m < 2 ^ n) (g : Nat) (hg : g < n)  : Cn yX9_canGo cX9_canGo 3 (some .boolean) 3 [.ref 30, .int (nI g), .int (nI m)] h (z_eq (some (.int (zb (cgB k s f n hr m g)))) h) := by
  have hn8 := hM.2.2.2.1.1
  have hp8 := p8 hn8
  have hlt := hM.2.2.1
  refine Cn.of (by decide) (Nat.le_of_ble_eq_true rfl) ?_
  refine Z.eqL (lv' := [(0, .ref 30), (1, .int (nI g)), (2, .int (nI m))]) rfl ?_
  refine Z.aload_n (pc := 0) (i := 0) dX9_canGo_0 rfl rfl ?_
  refine Z.iload_n (pc := 1) (i := 1) dX9_canGo_1 rfl rfl ?_
  refine Z.iload_n (pc := 2) (i := 2) dX9_canGo_2 rfl rfl ?_
  refine Z.callVi (pc := 3) dX9_canGo_3 (c_X9_hasFriend hM m hm g hg) zm_X9_120 zv_X9_hasFriend rfl rfl rfl rfl (by decide) (by decide) (Nat.le_of_ble_eq_true rfl) ?_
  refine Z.if_eq_b (pc := 6) (tgt := 27) dX9_canGo_6 (by decide) (fun c6 => ?_) (fun c6 => ?_)
  · refine Z.iconst (pc := 27) (v := (0)) dX9_canGo_27 (by decide) ?_
    refine Z.iret (pc := 28) (ty := .boolean) dX9_canGo_28 rfl (by first | rfl | exact zb_nar _) ?_
    refine ⟨?_, rfl⟩
    first | (refine zb_f rfl ?_; simp [cgB, c6]; done) | (refine zb_f rfl ?_; simp [cgB, lt_nle c20]; done) | (refine zb_t rfl ?_; simp [cgB, c6, nlt c20]; done)
  · refine Z.aload_n (pc := 9) (i := 0) dX9_canGo_9 rfl rfl ?_
    refine Z.iload_n (pc := 10) (i := 1) dX9_canGo_10 rfl rfl ?_
    refine Z.iload_n (pc := 11) (i := 2) dX9_canGo_11 rfl rfl ?_
    refine Z.callVi (pc := 12) dX9_canGo_12 (c_X9_othersFor hM m hm g (by omega)) zm_X9_123 zv_X9_othersFor rfl rfl rfl rfl (by decide) (by decide) (Nat.le_of_ble_eq_true rfl) ?_
    refine Z.aload_n (pc := 15) (i := 0) dX9_canGo_15 rfl rfl ?_
    refine Z.iload_n (pc := 16) (i := 1) dX9_canGo_16 rfl rfl ?_
    refine Z.callVi (pc := 17) dX9_canGo_17 (c_X9_needs hM g hg) zm_X9_126 zv_X9_needs rfl rfl rfl rfl (by decide) (by decide) (Nat.le_of_ble_eq_true rfl) ?_
    refine Z.icmp_lt (pc := 20) (tgt := 27) dX9_canGo_20 (by decide) (fun c20 => ?_) (fun c20 => ?_)
    · refine Z.iconst (pc := 27) (v := (0)) dX9_canGo_27 (by decide) ?_
      refine Z.iret (pc := 28) (ty := .boolean) dX9_canGo_28 rfl (by first | rfl | exact zb_nar _) ?_
      refine ⟨?_, rfl⟩
      first | (refine zb_f rfl ?_; simp [cgB, c6]; done) | (refine zb_f rfl ?_; simp [cgB, lt_nle c20]; done) | (refine zb_t rfl ?_; simp [cgB, c6, nlt c20]; done)
    · refine Z.iconst (pc := 23) (v := (1)) dX9_canGo_23 (by decide) ?_
      refine Z.goto (pc := 24) (tgt := 28) dX9_canGo_24 (by decide) ?_
      refine Z.iret (pc := 28) (ty := .boolean) dX9_canGo_28 rfl (by first | rfl | exact zb_nar _) ?_
      refine ⟨?_, rfl⟩
      first | (refine zb_f rfl ?_; simp [cgB, c6]; done) | (refine zb_f rfl ?_; simp [cgB, lt_nle c20]; done) | (refine zb_t rfl ?_; simp [cgB, c6, nlt c20]; done)
set_option maxRecDepth 100000 in
set_option maxHeartbeats 400000 in
theorem l_X9_canRise {h : hp} {n hr : Nat} {k s f : zF} (hM : Mm h n hr k s f) (m : Nat) (hm : m < 2 ^ n) : ∀ (r i : Nat) , i + r = n → Z yX9_canRise cX9_canRise 4 (some .boolean) 4 (z_eq (some (.int (zb (decide (wcg k s f n hr m = m))))) h) 4 [(0, .ref 30), (1, .int (nI m)), (2, .int (zb (allB (rsB k s f n hr m) i))), (3, .int (nI i))] [] h := by
  have hn8 := hM.2.2.2.1.1
  have hp8 := p8 hn8
  have hlt := hM.2.2.1
  intro r
  induction r with
  | zero =>
    intro i hi
    obtain rfl : n = i := by omega
    refine Z.iload_n (pc := 4) (i := 3) dX9_canRise_4 rfl rfl ?_
    refine Z.aload_n (pc := 5) (i := 0) dX9_canRise_5 rfl rfl ?_
    refine Z.getIv (pc := 6) dX9_canRise_6 zf_X9_83 rfl rfl hM.1 ?_
    refine Z.icmp_ge_t (pc := 9) (tgt := 45) dX9_canRise_9 (by decide) (nI_le (Nat.le_refl _) (by omega)) ?_
    refine Z.iload_n (pc := 45) (i := 2) dX9_canRise_45 rfl rfl ?_
    refine Z.iret (pc := 46) (ty := .boolean) dX9_canRise_46 rfl (by first | rfl | exact zb_nar _) ?_
    exact ⟨by rw [rs_all hn8 hm], rfl⟩
  | succ r ih =>
    intro i hi
    refine Z.iload_n (pc := 4) (i := 3) dX9_canRise_4 rfl rfl ?_
    refine Z.aload_n (pc := 5) (i := 0) dX9_canRise_5 rfl rfl ?_
    refine Z.getIv (pc := 6) dX9_canRise_6 zf_X9_83 rfl rfl hM.1 ?_
    refine Z.icmp_ge_f (pc := 9) (tgt := 45) dX9_canRise_9 (by decide) (nI_ge (by omega) (by omega)) ?_
    refine Z.iload_n (pc := 12) (i := 2) dX9_canRise_12 rfl rfl ?_
    refine Z.if_eq_b (pc := 13) (tgt := 37) dX9_canRise_13 (by decide) (fun c13 => ?_) (fun c13 => ?_)
    · have e : allB (rsB k s f n hr m) (i + 1) = false := by simp [allB, rsB, c13]
      refine Z.iconst (pc := 37) (v := (0)) dX9_canRise_37 (by decide) ?_
      refine Z.top (x' := zb (allB (rsB k s f n hr m) (i + 1))) (by rw [e]; rfl) ?_
      refine Z.istore_n (pc := 38) (i := 2) dX9_canRise_38 rfl (by decide) rfl ?_
      refine Z.iinc (pc := 39) (i := 3) (v := (nI (i + 1))) dX9_canRise_39 rfl (by exact ii_1 i) (by decide) rfl ?_
      refine Z.goto (pc := 42) (tgt := 4) dX9_canRise_42 (by decide) ?_
      exact ih (i + 1) (by omega)
    · refine Z.iload_n (pc := 16) (i := 1) dX9_canRise_16 rfl rfl ?_
      refine Z.iload_n (pc := 17) (i := 3) dX9_canRise_17 rfl rfl ?_
      refine Z.callSi (pc := 18) dX9_canRise_18 (c_X9_isIn m i (by omega) (l31 hm hn8)) zm_X9_105 zs_X9_isIn rfl rfl (by decide) (by decide) (Nat.le_of_ble_eq_true rfl) ?_
      refine Z.if_eq_b (pc := 21) (tgt := 33) dX9_canRise_21 (by decide) (fun c21 => ?_) (fun c21 => ?_)
      · have e : allB (rsB k s f n hr m) (i + 1) = true := by simp [allB, rsB, c13, c21]
        refine Z.iconst (pc := 33) (v := (1)) dX9_canRise_33 (by decide) ?_
        refine Z.goto (pc := 34) (tgt := 38) dX9_canRise_34 (by decide) ?_
        refine Z.top (x' := zb (allB (rsB k s f n hr m) (i + 1))) (by rw [e]; rfl) ?_
        refine Z.istore_n (pc := 38) (i := 2) dX9_canRise_38 rfl (by decide) rfl ?_
        refine Z.iinc (pc := 39) (i := 3) (v := (nI (i + 1))) dX9_canRise_39 rfl (by exact ii_1 i) (by decide) rfl ?_
        refine Z.goto (pc := 42) (tgt := 4) dX9_canRise_42 (by decide) ?_
        exact ih (i + 1) (by omega)
      · refine Z.aload_n (pc := 24) (i := 0) dX9_canRise_24 rfl rfl ?_
        refine Z.iload_n (pc := 25) (i := 3) dX9_canRise_25 rfl rfl ?_
        refine Z.iload_n (pc := 26) (i := 1) dX9_canRise_26 rfl rfl ?_
        refine Z.callVi (pc := 27) dX9_canRise_27 (c_X9_canGo hM m hm i (by omega)) zm_X9_129 zv_X9_canGo rfl rfl rfl rfl (by decide) (by decide) (Nat.le_of_ble_eq_true rfl) ?_
        refine Z.if_eq_b (pc := 30) (tgt := 37) dX9_canRise_30 (by decide) (fun c30 => ?_) (fun c30 => ?_)
        · have e : allB (rsB k s f n hr m) (i + 1) = false := by simp [allB, rsB, c21, c30]
          refine Z.iconst (pc := 37) (v := (0)) dX9_canRise_37 (by decide) ?_
          refine Z.top (x' := zb (allB (rsB k s f n hr m) (i + 1))) (by rw [e]; rfl) ?_
          refine Z.istore_n (pc := 38) (i := 2) dX9_canRise_38 rfl (by decide) rfl ?_
          refine Z.iinc (pc := 39) (i := 3) (v := (nI (i + 1))) dX9_canRise_39 rfl (by exact ii_1 i) (by decide) rfl ?_
          refine Z.goto (pc := 42) (tgt := 4) dX9_canRise_42 (by decide) ?_
          exact ih (i + 1) (by omega)
        · have e : allB (rsB k s f n hr m) (i + 1) = true := by simp [allB, rsB, c13, c30]
          refine Z.iconst (pc := 33) (v := (1)) dX9_canRise_33 (by decide) ?_
          refine Z.goto (pc := 34) (tgt := 38) dX9_canRise_34 (by decide) ?_
          refine Z.top (x' := zb (allB (rsB k s f n hr m) (i + 1))) (by rw [e]; rfl) ?_
          refine Z.istore_n (pc := 38) (i := 2) dX9_canRise_38 rfl (by decide) rfl ?_
          refine Z.iinc (pc := 39) (i := 3) (v := (nI (i + 1))) dX9_canRise_39 rfl (by exact ii_1 i) (by decide) rfl ?_
          refine Z.goto (pc := 42) (tgt := 4) dX9_canRise_42 (by decide) ?_
          exact ih (i + 1) (by omega)
set_option maxRecDepth 100000 in
set_option maxHeartbeats 400000 in
theorem c_X9_canRise {h : hp} {n hr : Nat} {k s f : zF} (hM : Mm h n hr k s f) (m : Nat) (hm : m < 2 ^ n)  : Cn yX9_canRise cX9_canRise 4 (some .boolean) 4 [.ref 30, .int (nI m)] h (z_eq (some (.int (zb (decide (wcg k s f n hr m = m))))) h) := by
  refine Cn.of (by decide) (Nat.le_of_ble_eq_true rfl) ?_
  refine Z.eqL (lv' := [(0, .ref 30), (1, .int (nI m))]) rfl ?_
  refine Z.iconst (pc := 0) (v := (1)) dX9_canRise_0 (by decide) ?_
  refine Z.istore_n (pc := 1) (i := 2) dX9_canRise_1 rfl (by decide) rfl ?_
  refine Z.iconst (pc := 2) (v := (nI 0)) dX9_canRise_2 (by decide) ?_
  refine Z.istore_n (pc := 3) (i := 3) dX9_canRise_3 rfl (by decide) rfl ?_
  exact l_X9_canRise hM m hm n 0 (by omega)
set_option maxRecDepth 100000 in
set_option maxHeartbeats 400000 in
theorem l_X9_withoutStuck {h : hp} {n hr : Nat} {k s f : zF} (hM : Mm h n hr k s f) (m : Nat) (hm : m < 2 ^ n) : ∀ (r i : Nat) , i + r = n → Z yX9_withoutStuck cX9_withoutStuck 4 (some .int) 4 (z_eq (some (.int (nI (wcg k s f n hr m)))) h) 4 [(0, .ref 30), (1, .int (nI m)), (2, .int (nI (dif m (orb (skB k s f n hr m) i)))), (3, .int (nI i))] [] h := by
  have hn8 := hM.2.2.2.1.1
  have hp8 := p8 hn8
  have hlt := hM.2.2.1
  intro r
  induction r with
  | zero =>
    intro i hi
    obtain rfl : n = i := by omega
    refine Z.iload_n (pc := 4) (i := 3) dX9_withoutStuck_4 rfl rfl ?_
    refine Z.aload_n (pc := 5) (i := 0) dX9_withoutStuck_5 rfl rfl ?_
    refine Z.getIv (pc := 6) dX9_withoutStuck_6 zf_X9_83 rfl rfl hM.1 ?_
    refine Z.icmp_ge_t (pc := 9) (tgt := 47) dX9_withoutStuck_9 (by decide) (nI_le (Nat.le_refl _) (by omega)) ?_
    refine Z.iload_n (pc := 47) (i := 2) dX9_withoutStuck_47 rfl rfl ?_
    refine Z.iret (pc := 48) (ty := .int) dX9_withoutStuck_48 rfl rfl ?_
    exact ⟨by rw [sk_all hn8 hm], rfl⟩
  | succ r ih =>
    intro i hi
    refine Z.iload_n (pc := 4) (i := 3) dX9_withoutStuck_4 rfl rfl ?_
    refine Z.aload_n (pc := 5) (i := 0) dX9_withoutStuck_5 rfl rfl ?_
    refine Z.getIv (pc := 6) dX9_withoutStuck_6 zf_X9_83 rfl rfl hM.1 ?_
    refine Z.icmp_ge_f (pc := 9) (tgt := 47) dX9_withoutStuck_9 (by decide) (nI_ge (by omega) (by omega)) ?_
    refine Z.iload_n (pc := 12) (i := 2) dX9_withoutStuck_12 rfl rfl ?_
    refine Z.iload_n (pc := 13) (i := 1) dX9_withoutStuck_13 rfl rfl ?_
    refine Z.iload_n (pc := 14) (i := 3) dX9_withoutStuck_14 rfl rfl ?_
    refine Z.callSi (pc := 15) dX9_withoutStuck_15 (c_X9_isIn m i (by omega) (l31 hm hn8)) zm_X9_105 zs_X9_isIn rfl rfl (by decide) (by decide) (Nat.le_of_ble_eq_true rfl) ?_
    refine Z.if_eq_b (pc := 18) (tgt := 38) dX9_withoutStuck_18 (by decide) (fun c18 => ?_) (fun c18 => ?_)
    · have e : skB k s f n hr m i = false := by simp [skB, c18]
      refine Z.iconst (pc := 38) (v := (-1)) dX9_withoutStuck_38 (by decide) ?_
      refine Z.iand (pc := 39) dX9_withoutStuck_39 ?_
      first | refine Z.top (x' := nI (dif m (orb (skB k s f n hr m) (i + 1)))) ((nb_dif _ _).trans (congrArg nI (dif_orb_t e))) ?_ | refine Z.top (x' := nI (dif m (orb (skB k s f n hr m) (i + 1)))) ((and_m1 _).trans (congrArg nI (dif_orb_f e))) ?_
      refine Z.istore_n (pc := 40) (i := 2) dX9_withoutStuck_40 rfl (by decide) rfl ?_
      refine Z.iinc (pc := 41) (i := 3) (v := (nI (i + 1))) dX9_withoutStuck_41 rfl (by exact ii_1 i) (by decide) rfl ?_
      refine Z.goto (pc := 44) (tgt := 4) dX9_withoutStuck_44 (by decide) ?_
      exact ih (i + 1) (by omega)
    · refine Z.aload_n (pc := 21) (i := 0) dX9_withoutStuck_21 rfl rfl ?_
      refine Z.iload_n (pc := 22) (i := 3) dX9_withoutStuck_22 rfl rfl ?_
      refine Z.iload_n (pc := 23) (i := 1) dX9_withoutStuck_23 rfl rfl ?_
      refine Z.callVi (pc := 24) dX9_withoutStuck_24 (c_X9_canGo hM m hm i (by omega)) zm_X9_129 zv_X9_canGo rfl rfl rfl rfl (by decide) (by decide) (Nat.le_of_ble_eq_true rfl) ?_
      refine Z.if_ne_b (pc := 27) (tgt := 38) dX9_withoutStuck_27 (by decide) (fun c27 => ?_) (fun c27 => ?_)
      · have e : skB k s f n hr m i = false := by simp [skB, c27]
        refine Z.iconst (pc := 38) (v := (-1)) dX9_withoutStuck_38 (by decide) ?_
        refine Z.iand (pc := 39) dX9_withoutStuck_39 ?_
        first | refine Z.top (x' := nI (dif m (orb (skB k s f n hr m) (i + 1)))) ((nb_dif _ _).trans (congrArg nI (dif_orb_t e))) ?_ | refine Z.top (x' := nI (dif m (orb (skB k s f n hr m) (i + 1)))) ((and_m1 _).trans (congrArg nI (dif_orb_f e))) ?_
        refine Z.istore_n (pc := 40) (i := 2) dX9_withoutStuck_40 rfl (by decide) rfl ?_
        refine Z.iinc (pc := 41) (i := 3) (v := (nI (i + 1))) dX9_withoutStuck_41 rfl (by exact ii_1 i) (by decide) rfl ?_
        refine Z.goto (pc := 44) (tgt := 4) dX9_withoutStuck_44 (by decide) ?_
        exact ih (i + 1) (by omega)
      · have e : skB k s f n hr m i = true := by simp [skB, c18, c27]
        refine Z.iconst (pc := 30) (v := (nI 1)) dX9_withoutStuck_30 (by decide) ?_
        refine Z.iload_n (pc := 31) (i := 3) dX9_withoutStuck_31 rfl rfl ?_
        refine Z.ishl (pc := 32) dX9_withoutStuck_32 ?_
        refine Z.top (nb_shl (by omega)) ?_
        refine Z.iconst (pc := 33) (v := (-1)) dX9_withoutStuck_33 (by decide) ?_
        refine Z.ixor (pc := 34) dX9_withoutStuck_34 ?_
        refine Z.goto (pc := 35) (tgt := 39) dX9_withoutStuck_35 (by decide) ?_
        refine Z.iand (pc := 39) dX9_withoutStuck_39 ?_
        first | refine Z.top (x' := nI (dif m (orb (skB k s f n hr m) (i + 1)))) ((nb_dif _ _).trans (congrArg nI (dif_orb_t e))) ?_ | refine Z.top (x' := nI (dif m (orb (skB k s f n hr m) (i + 1)))) ((and_m1 _).trans (congrArg nI (dif_orb_f e))) ?_
        refine Z.istore_n (pc := 40) (i := 2) dX9_withoutStuck_40 rfl (by decide) rfl ?_
        refine Z.iinc (pc := 41) (i := 3) (v := (nI (i + 1))) dX9_withoutStuck_41 rfl (by exact ii_1 i) (by decide) rfl ?_
        refine Z.goto (pc := 44) (tgt := 4) dX9_withoutStuck_44 (by decide) ?_
        exact ih (i + 1) (by omega)
set_option maxRecDepth 100000 in
set_option maxHeartbeats 400000 in
theorem c_X9_withoutStuck {h : hp} {n hr : Nat} {k s f : zF} (hM : Mm h n hr k s f) (m : Nat) (hm : m < 2 ^ n)  : Cn yX9_withoutStuck cX9_withoutStuck 4 (some .int) 4 [.ref 30, .int (nI m)] h (z_eq (some (.int (nI (wcg k s f n hr m)))) h) := by
  have e0 : dif m (orb (skB k s f n hr m) 0) = m := by show m ^^^ (m &&& 0) = m; simp
  refine Cn.of (by decide) (Nat.le_of_ble_eq_true rfl) ?_
  refine Z.eqL (lv' := [(0, .ref 30), (1, .int (nI m))]) rfl ?_
  refine Z.iload_n (pc := 0) (i := 1) dX9_withoutStuck_0 rfl rfl ?_
  refine Z.istore_n (pc := 1) (i := 2) dX9_withoutStuck_1 rfl (by decide) rfl ?_
  refine Z.iconst (pc := 2) (v := (nI 0)) dX9_withoutStuck_2 (by decide) ?_
  refine Z.istore_n (pc := 3) (i := 3) dX9_withoutStuck_3 rfl (by decide) rfl ?_
  have e := l_X9_withoutStuck hM m hm n 0 (by omega)
  rw [e0] at e
  exact e
set_option maxRecDepth 100000 in
set_option maxHeartbeats 400000 in
theorem l_X9_mostOf {h : hp} {n hr : Nat} {k s f : zF} (hM : Mm h n hr k s f) (X : Nat) (u : Int32) : ∀ (r a : Nat), a < r → a < 2 ^ n → mst k s f n hr a = X → Z yX9_mostOf cX9_mostOf 4 (some .int) 5 (z_eq (some (.int (nI X))) h) 8 [(0, .ref 30), (1, .int u), (2, .int (nI a)), (3, .int (nI (wcg k s f n hr a)))] [] h := by
  have hn8 := hM.2.2.2.1.1
  have hp8 := p8 hn8
  have hlt := hM.2.2.1
  intro r
  induction r with
  | zero => intro a h0; exact absurd h0 (Nat.not_lt_zero a)
  | succ r ih =>
    intro a hr2 ha hX
    refine Z.iload_n (pc := 8) (i := 3) dX9_mostOf_8 rfl rfl ?_
    refine Z.iload_n (pc := 9) (i := 2) dX9_mostOf_9 rfl rfl ?_
    refine Z.icmp_eq (pc := 10) (tgt := 24) dX9_mostOf_10 (by decide) (fun c10 => ?_) (fun c10 => ?_)
    · have q : wcg k s f n hr a = a := (nI_eq (Nat.lt_of_le_of_lt wcg_le (by omega)) (by omega)).mp c10
      refine Z.iload_n (pc := 24) (i := 2) dX9_mostOf_24 rfl rfl ?_
      refine Z.iret (pc := 25) (ty := .int) dX9_mostOf_25 rfl rfl ?_
      exact ⟨by rw [← hX, mst_id q], rfl⟩
    · have q : ¬ wcg k s f n hr a = a := fun z => c10 (by rw [z])
      have q2 : wcg k s f n hr a ≤ a := wcg_le
      refine Z.iload_n (pc := 13) (i := 3) dX9_mostOf_13 rfl rfl ?_
      refine Z.istore_n (pc := 14) (i := 2) dX9_mostOf_14 rfl (by decide) rfl ?_
      refine Z.aload_n (pc := 15) (i := 0) dX9_mostOf_15 rfl rfl ?_
      refine Z.iload_n (pc := 16) (i := 2) dX9_mostOf_16 rfl rfl ?_
      refine Z.callVi (pc := 17) dX9_mostOf_17 (c_X9_withoutStuck hM _ (wcg_lt ha)) zm_X9_132 zv_X9_withoutStuck rfl rfl rfl rfl (by decide) (by decide) (Nat.le_of_ble_eq_true rfl) ?_
      refine Z.istore_n (pc := 20) (i := 3) dX9_mostOf_20 rfl (by decide) rfl ?_
      refine Z.goto (pc := 21) (tgt := 8) dX9_mostOf_21 (by decide) ?_
      exact ih _ (by omega) (wcg_lt ha) (by rw [← hX, mst_step (by omega)])
set_option maxRecDepth 100000 in
set_option maxHeartbeats 400000 in
theorem c_X9_mostOf {h : hp} {n hr : Nat} {k s f : zF} (hM : Mm h n hr k s f) (m : Nat) (hm : m < 2 ^ n)  : Cn yX9_mostOf cX9_mostOf 4 (some .int) 5 [.ref 30, .int (nI m)] h (z_eq (some (.int (nI (mst k s f n hr m)))) h) := by
  refine Cn.of (by decide) (Nat.le_of_ble_eq_true rfl) ?_
  refine Z.eqL (lv' := [(0, .ref 30), (1, .int (nI m))]) rfl ?_
  refine Z.iload_n (pc := 0) (i := 1) dX9_mostOf_0 rfl rfl ?_
  refine Z.istore_n (pc := 1) (i := 2) dX9_mostOf_1 rfl (by decide) rfl ?_
  refine Z.aload_n (pc := 2) (i := 0) dX9_mostOf_2 rfl rfl ?_
  refine Z.iload_n (pc := 3) (i := 2) dX9_mostOf_3 rfl rfl ?_
  refine Z.callVi (pc := 4) dX9_mostOf_4 (c_X9_withoutStuck hM m hm) zm_X9_132 zv_X9_withoutStuck rfl rfl rfl rfl (by decide) (by decide) (Nat.le_of_ble_eq_true rfl) ?_
  refine Z.istore_n (pc := 7) (i := 3) dX9_mostOf_7 rfl (by decide) rfl ?_
  exact l_X9_mostOf hM _ _ (m + 1) m (by omega) hm rfl
set_option maxRecDepth 100000 in
set_option maxHeartbeats 400000 in
theorem l_X9_firstAlone {h : hp} {n hr : Nat} {k s f : zF} (hM : Mm h n hr k s f) : ∀ (r i : Nat) , i + r = n → (∀ j, j < i → alB k s f n hr j = false) → Z yX9_firstAlone cX9_firstAlone 2 (some .int) 4 (z_eq (some (.int (faI k s f n hr))) h) 2 [(0, .ref 30), (1, .int (nI i))] [] h := by
  have hn8 := hM.2.2.2.1.1
  have hp8 := p8 hn8
  have hlt := hM.2.2.1
  intro r
  induction r with
  | zero =>
    intro i hi hne
    obtain rfl : n = i := by omega
    refine Z.iload_n (pc := 2) (i := 1) dX9_firstAlone_2 rfl rfl ?_
    refine Z.aload_n (pc := 3) (i := 0) dX9_firstAlone_3 rfl rfl ?_
    refine Z.getIv (pc := 4) dX9_firstAlone_4 zf_X9_83 rfl rfl hM.1 ?_
    refine Z.icmp_ge_t (pc := 7) (tgt := 38) dX9_firstAlone_7 (by decide) (nI_le (Nat.le_refl _) (by omega)) ?_
    refine Z.iload_n (pc := 38) (i := 1) dX9_firstAlone_38 rfl rfl ?_
    refine Z.aload_n (pc := 39) (i := 0) dX9_firstAlone_39 rfl rfl ?_
    refine Z.getIv (pc := 40) dX9_firstAlone_40 zf_X9_83 rfl rfl hM.1 ?_
    refine Z.icmp_ne_f (pc := 43) (tgt := 50) dX9_firstAlone_43 (by decide) (rfl) ?_
    refine Z.iconst (pc := 46) (v := (-1)) dX9_firstAlone_46 (by decide) ?_
    refine Z.goto (pc := 47) (tgt := 51) dX9_firstAlone_47 (by decide) ?_
    refine Z.iret (pc := 51) (ty := .int) dX9_firstAlone_51 rfl rfl ?_
    exact ⟨by rw [fa_none hlt hne], rfl⟩
  | succ r ih =>
    intro i hi hne
    refine Z.iload_n (pc := 2) (i := 1) dX9_firstAlone_2 rfl rfl ?_
    refine Z.aload_n (pc := 3) (i := 0) dX9_firstAlone_3 rfl rfl ?_
    refine Z.getIv (pc := 4) dX9_firstAlone_4 zf_X9_83 rfl rfl hM.1 ?_
    refine Z.icmp_ge_f (pc := 7) (tgt := 38) dX9_firstAlone_7 (by decide) (nI_ge (by omega) (by omega)) ?_
    refine Z.aload_n (pc := 10) (i := 0) dX9_firstAlone_10 rfl rfl ?_
    refine Z.getIv (pc := 11) dX9_firstAlone_11 zf_X9_89 rfl rfl hM.2.1 ?_
    refine Z.iload_n (pc := 14) (i := 1) dX9_firstAlone_14 rfl rfl ?_
    refine Z.callSi (pc := 15) dX9_firstAlone_15 (c_X9_isIn hr i (by omega) (l31 hlt hn8)) zm_X9_105 zs_X9_isIn rfl rfl (by decide) (by decide) (Nat.le_of_ble_eq_true rfl) ?_
    refine Z.if_eq_b (pc := 18) (tgt := 32) dX9_firstAlone_18 (by decide) (fun c18 => ?_) (fun c18 => ?_)
    · have e : alB k s f n hr i = false := by simp [alB, c18]
      refine Z.iinc (pc := 32) (i := 1) (v := (nI (i + 1))) dX9_firstAlone_32 rfl (by exact ii_1 i) (by decide) rfl ?_
      refine Z.goto (pc := 35) (tgt := 2) dX9_firstAlone_35 (by decide) ?_
      exact ih (i + 1) (by omega) (fun j hj => by rcases Nat.lt_succ_iff_lt_or_eq.mp hj with q | q; exact hne j q; exact q ▸ e)
    · have ec := al_cg hM.2.2.2.1 hlt c18
      refine Z.aload_n (pc := 21) (i := 0) dX9_firstAlone_21 rfl rfl ?_
      refine Z.iload_n (pc := 22) (i := 1) dX9_firstAlone_22 rfl rfl ?_
      refine Z.iconst (pc := 23) (v := (nI 1)) dX9_firstAlone_23 (by decide) ?_
      refine Z.iload_n (pc := 24) (i := 1) dX9_firstAlone_24 rfl rfl ?_
      refine Z.ishl (pc := 25) dX9_firstAlone_25 ?_
      refine Z.top (nb_shl (by omega)) ?_
      refine Z.callVi (pc := 26) dX9_firstAlone_26 (c_X9_canGo hM (2 ^ i) (Nat.pow_lt_pow_right (by decide) (by omega)) i (by omega)) zm_X9_129 zv_X9_canGo rfl rfl rfl rfl (by decide) (by decide) (Nat.le_of_ble_eq_true rfl) ?_
      refine Z.if_ne_b (pc := 29) (tgt := 38) dX9_firstAlone_29 (by decide) (fun c29 => ?_) (fun c29 => ?_)
      · have e : alB k s f n hr i = true := by unfold alB; rw [c18, ← ec, c29]; rfl
        refine Z.iload_n (pc := 38) (i := 1) dX9_firstAlone_38 rfl rfl ?_
        refine Z.aload_n (pc := 39) (i := 0) dX9_firstAlone_39 rfl rfl ?_
        refine Z.getIv (pc := 40) dX9_firstAlone_40 zf_X9_83 rfl rfl hM.1 ?_
        refine Z.icmp_ne_t (pc := 43) (tgt := 50) dX9_firstAlone_43 (by decide) (fun q => absurd ((nI_eq (by omega) (by omega)).mp q) (by omega)) ?_
        refine Z.iload_n (pc := 50) (i := 1) dX9_firstAlone_50 rfl rfl ?_
        refine Z.iret (pc := 51) (ty := .int) dX9_firstAlone_51 rfl rfl ?_
        exact ⟨by rw [fa_hit hn8 hne e (by omega)], rfl⟩
      · have e : alB k s f n hr i = false := by unfold alB; rw [← ec, c29]; simp
        refine Z.iinc (pc := 32) (i := 1) (v := (nI (i + 1))) dX9_firstAlone_32 rfl (by exact ii_1 i) (by decide) rfl ?_
        refine Z.goto (pc := 35) (tgt := 2) dX9_firstAlone_35 (by decide) ?_
        exact ih (i + 1) (by omega) (fun j hj => by rcases Nat.lt_succ_iff_lt_or_eq.mp hj with q | q; exact hne j q; exact q ▸ e)
set_option maxRecDepth 100000 in
set_option maxHeartbeats 400000 in
theorem c_X9_firstAlone {h : hp} {n hr : Nat} {k s f : zF} (hM : Mm h n hr k s f)  : Cn yX9_firstAlone cX9_firstAlone 2 (some .int) 4 [.ref 30] h (z_eq (some (.int (faI k s f n hr))) h) := by
  refine Cn.of (by decide) (Nat.le_of_ble_eq_true rfl) ?_
  refine Z.eqL (lv' := [(0, .ref 30)]) rfl ?_
  refine Z.iconst (pc := 0) (v := (nI 0)) dX9_firstAlone_0 (by decide) ?_
  refine Z.istore_n (pc := 1) (i := 1) dX9_firstAlone_1 rfl (by decide) rfl ?_
  exact l_X9_firstAlone hM n 0 (by omega) (fun j hj => absurd hj (Nat.not_lt_zero j))
set_option maxRecDepth 100000 in
set_option maxHeartbeats 400000 in
theorem c_X9_shyLess {h : hp} {n hr : Nat} {k s f : zF} (hM : Mm h n hr k s f) (g : Nat) (hg : g < n)  : Cn yX9_shyLess cX9_shyLess 2 none 0 [.ref 30, .int (nI g)] h (z_eq none (z_up h 32 g (lsI (s g)))) := by
  have hn8 := hM.2.2.2.1.1
  have hp8 := p8 hn8
  have hlt := hM.2.2.1
  obtain ⟨a, ha, hsa⟩ := hM.2.2.2.1.2.2.1 g hg
  have hsg := (show h.1 32 g = s g from congrFun hM.2.2.2.2.2.1 g).trans hsa
  refine Cn.of (by decide) (Nat.le_of_ble_eq_true rfl) ?_
  refine Z.eqL (lv' := [(0, .ref 30), (1, .int (nI g))]) rfl ?_
  refine Z.aload_n (pc := 0) (i := 0) dX9_shyLess_0 rfl rfl ?_
  refine Z.getR (pc := 1) dX9_shyLess_1 zf_X9_13 rfl rfl ?_
  refine Z.iload_n (pc := 4) (i := 1) dX9_shyLess_4 rfl rfl ?_
  refine Z.dup2 (pc := 5) dX9_shyLess_5 rfl rfl ?_
  refine Z.iald (pc := 6) dX9_shyLess_6 rfl (by omega) (by decide) ?_
  refine Z.top (hsg) ?_
  refine Z.aload_n (pc := 7) (i := 0) dX9_shyLess_7 rfl rfl ?_
  refine Z.getR (pc := 8) dX9_shyLess_8 zf_X9_13 rfl rfl ?_
  refine Z.iload_n (pc := 11) (i := 1) dX9_shyLess_11 rfl rfl ?_
  refine Z.iald (pc := 12) dX9_shyLess_12 rfl (by omega) (by decide) ?_
  refine Z.top (hsg) ?_
  refine Z.if_le (pc := 13) (tgt := 20) dX9_shyLess_13 (by decide) (fun c13 => ?_) (fun c13 => ?_)
  · have q : decide (0 < a) = false := decide_eq_false (fun w => nI_nle w (by omega) c13)
    refine Z.iconst (pc := 20) (v := (0)) dX9_shyLess_20 (by decide) ?_
    refine Z.isub (pc := 21) dX9_shyLess_21 ?_
    refine Z.top (x' := lsI (s g)) (by rw [hsa]; have w := ls_sub ha _ q.symm; exact w) ?_
    refine Z.iast (pc := 22) dX9_shyLess_22 rfl (by omega) (by decide) ?_
    refine Z.vret (pc := 23) dX9_shyLess_23 rfl ?_
    exact ⟨rfl, rfl⟩
  · have q : decide (0 < a) = true := decide_eq_true (Nat.pos_of_ne_zero (fun w => c13 (by rw [w]; decide)))
    refine Z.iconst (pc := 16) (v := (1)) dX9_shyLess_16 (by decide) ?_
    refine Z.goto (pc := 17) (tgt := 21) dX9_shyLess_17 (by decide) ?_
    refine Z.isub (pc := 21) dX9_shyLess_21 ?_
    refine Z.top (x' := lsI (s g)) (by rw [hsa]; have w := ls_sub ha _ q.symm; exact w) ?_
    refine Z.iast (pc := 22) dX9_shyLess_22 rfl (by omega) (by decide) ?_
    refine Z.vret (pc := 23) dX9_shyLess_23 rfl ?_
    exact ⟨rfl, rfl⟩
