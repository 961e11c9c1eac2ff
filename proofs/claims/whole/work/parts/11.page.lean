set_option maxRecDepth 100000 in
set_option maxHeartbeats 400000 in
theorem c_J3_checkIndex_8e157 {h : hp} (j : Nat) (hj : j < 5) (vs : Value) (hvs : vs = .null ∨ vs = .ref 102)  : Cn yJ3_checkIndex_8e157 cJ3_checkIndex_8e157 3 (some .int) 0 [.int (nI j), .int 5, vs] h (z_eq (some (.int (nI j))) h) := by
  refine Cn.of (by decide) (by rcases hvs with rfl | rfl <;> exact Nat.le_of_ble_eq_true rfl) ?_
  refine Z.eqL (lv' := [(0, .int (nI j)), (1, .int 5), (2, vs)]) rfl ?_
  refine Z.iload_n (pc := 0) (i := 0) dJ3_checkIndex_8e157_0 rfl rfl ?_
  refine Z.if_lt_f (pc := 1) (tgt := 9) dJ3_checkIndex_8e157_1 (by decide) (nI_pos (by omega)) ?_
  refine Z.iload_n (pc := 4) (i := 0) dJ3_checkIndex_8e157_4 rfl rfl ?_
  refine Z.iload_n (pc := 5) (i := 1) dJ3_checkIndex_8e157_5 rfl rfl ?_
  refine Z.icmp_lt_t (pc := 6) (tgt := 16) dJ3_checkIndex_8e157_6 (by decide) (nI_lt (b := 5) hj (by decide)) ?_
  refine Z.iload_n (pc := 16) (i := 0) dJ3_checkIndex_8e157_16 rfl rfl ?_
  refine Z.iret (pc := 17) (ty := .int) dJ3_checkIndex_8e157_17 rfl rfl ?_
  exact ⟨rfl, rfl⟩
set_option maxRecDepth 100000 in
set_option maxHeartbeats 400000 in
theorem c_J0_checkIndex_df160 {h : hp} (j : Nat) (hj : j < 5)  : Cn yJ0_checkIndex_df160 cJ0_checkIndex_df160 2 none 1 [.int (nI j), .int 5] h (z_eq none (h)) := by
  refine Cn.of (by decide) (Nat.le_of_ble_eq_true rfl) ?_
  refine Z.eqL (lv' := [(0, .int (nI j)), (1, .int 5)]) rfl ?_
  refine Z.iload_n (pc := 0) (i := 0) dJ0_checkIndex_df160_0 rfl rfl ?_
  refine Z.iload_n (pc := 1) (i := 1) dJ0_checkIndex_df160_1 rfl rfl ?_
  refine Z.getsF (pc := 2) dJ0_checkIndex_df160_2 zg_J0_1053 (fun vs hvs => ?_)
  refine Z.callSi (pc := 5) dJ0_checkIndex_df160_5 (c_J3_checkIndex_8e157 j hj vs hvs) zm_J0_1059 zs_J3_checkIndex_8e157 rfl rfl (by decide) (by decide) (Nat.le_of_ble_eq_true rfl) ?_
  refine Z.pop (pc := 8) dJ0_checkIndex_df160_8 rfl ?_
  refine Z.vret (pc := 9) dJ0_checkIndex_df160_9 rfl ?_
  exact ⟨rfl, rfl⟩
set_option maxRecDepth 100000 in
set_option maxHeartbeats 400000 in
theorem c_J1_charAt_3b067 {h : hp} (j : Nat) (hj : j < 5)  : Cn yJ1_charAt_3b067 cJ1_charAt_3b067 2 (some .char) 2 [.ref 101, .int (nI j)] h (z_eq (some (.int (chr j))) h) := by
  refine Cn.of (by decide) (Nat.le_of_ble_eq_true rfl) ?_
  refine Z.eqL (lv' := [(0, .ref 101), (1, .int (nI j))]) rfl ?_
  refine Z.iload_n (pc := 0) (i := 1) dJ1_charAt_3b067_0 rfl rfl ?_
  refine Z.aload_n (pc := 1) (i := 0) dJ1_charAt_3b067_1 rfl rfl ?_
  refine Z.alenS (pc := 2) dJ1_charAt_3b067_2 ?_
  refine Z.callSv (pc := 3) dJ1_charAt_3b067_3 (c_J0_checkIndex_df160 j hj) zm_J1_9 zs_J0_checkIndex_df160 rfl rfl (by decide) (by decide) (Nat.le_of_ble_eq_true rfl) ?_
  refine Z.aload_n (pc := 6) (i := 0) dJ1_charAt_3b067_6 rfl rfl ?_
  refine Z.iload_n (pc := 7) (i := 1) dJ1_charAt_3b067_7 rfl rfl ?_
  refine Z.baldS (pc := 8) dJ1_charAt_3b067_8 hj ?_
  refine Z.sipush (pc := 9) (v := (255)) dJ1_charAt_3b067_9 (by decide) ?_
  refine Z.iand (pc := 12) dJ1_charAt_3b067_12 ?_
  refine Z.i2c (pc := 13) dJ1_charAt_3b067_13 ?_
  refine Z.top (chr_c j hj) ?_
  refine Z.iret (pc := 14) (ty := .char) dJ1_charAt_3b067_14 rfl (chr_n j hj) ?_
  exact ⟨rfl, rfl⟩
set_option maxRecDepth 100000 in
set_option maxHeartbeats 400000 in
theorem c_J0_isLatin1_aae02 {h : hp}  : Cn yJ0_isLatin1_aae02 cJ0_isLatin1_aae02 1 (some .boolean) 0 [.ref 100] h (z_eq (some (.int (zb (true)))) h) := by
  refine Cn.of (by decide) (Nat.le_of_ble_eq_true rfl) ?_
  refine Z.eqL (lv' := [(0, .ref 100)]) rfl ?_
  refine Z.getsC (pc := 0) dJ0_isLatin1_aae02_0 zg_J0_38 ?_
  refine Z.if_eq_f (pc := 3) (tgt := 17) dJ0_isLatin1_aae02_3 (by decide) (by decide) ?_
  refine Z.aload_n (pc := 6) (i := 0) dJ0_isLatin1_aae02_6 rfl rfl ?_
  refine Z.getS_c (pc := 7) dJ0_isLatin1_aae02_7 zg_J0_15 ?_
  refine Z.if_ne_f (pc := 10) (tgt := 17) dJ0_isLatin1_aae02_10 (by decide) (rfl) ?_
  refine Z.iconst (pc := 13) (v := (1)) dJ0_isLatin1_aae02_13 (by decide) ?_
  refine Z.goto (pc := 14) (tgt := 18) dJ0_isLatin1_aae02_14 (by decide) ?_
  refine Z.iret (pc := 18) (ty := .boolean) dJ0_isLatin1_aae02_18 rfl (by first | rfl | exact zb_nar _) ?_
  exact ⟨rfl, rfl⟩
set_option maxRecDepth 100000 in
set_option maxHeartbeats 400000 in
theorem c_J0_coder_7d493 {h : hp}  : Cn yJ0_coder_7d493 cJ0_coder_7d493 1 (some .byte) 0 [.ref 100] h (z_eq (some (.int (0))) h) := by
  refine Cn.of (by decide) (Nat.le_of_ble_eq_true rfl) ?_
  refine Z.eqL (lv' := [(0, .ref 100)]) rfl ?_
  refine Z.getsC (pc := 0) dJ0_coder_7d493_0 zg_J0_38 ?_
  refine Z.if_eq_f (pc := 3) (tgt := 13) dJ0_coder_7d493_3 (by decide) (by decide) ?_
  refine Z.aload_n (pc := 6) (i := 0) dJ0_coder_7d493_6 rfl rfl ?_
  refine Z.getS_c (pc := 7) dJ0_coder_7d493_7 zg_J0_15 ?_
  refine Z.goto (pc := 10) (tgt := 14) dJ0_coder_7d493_10 (by decide) ?_
  refine Z.iret (pc := 14) (ty := .byte) dJ0_coder_7d493_14 rfl (by first | rfl | decide) ?_
  exact ⟨rfl, rfl⟩
set_option maxRecDepth 100000 in
set_option maxHeartbeats 400000 in
theorem c_J0_length_8abf5 {h : hp}  : Cn yJ0_length_8abf5 cJ0_length_8abf5 1 (some .int) 1 [.ref 100] h (z_eq (some (.int (5))) h) := by
  refine Cn.of (by decide) (Nat.le_of_ble_eq_true rfl) ?_
  refine Z.eqL (lv' := [(0, .ref 100)]) rfl ?_
  refine Z.aload_n (pc := 0) (i := 0) dJ0_length_8abf5_0 rfl rfl ?_
  refine Z.getS_v (pc := 1) dJ0_length_8abf5_1 zg_J0_9 ?_
  refine Z.alenS (pc := 4) dJ0_length_8abf5_4 ?_
  refine Z.aload_n (pc := 5) (i := 0) dJ0_length_8abf5_5 rfl rfl ?_
  refine Z.callT (pc := 6) dJ0_length_8abf5_6 (c_J0_coder_7d493) rfl zm_J0_335 zv_J0_coder_7d493 rfl rfl (by decide) (by decide) (Nat.le_of_ble_eq_true rfl) ?_
  refine Z.ishr (pc := 9) dJ0_length_8abf5_9 ?_
  refine Z.top (show _ = (5 : Int32) from by decide) ?_
  refine Z.iret (pc := 10) (ty := .int) dJ0_length_8abf5_10 rfl rfl ?_
  exact ⟨rfl, rfl⟩
set_option maxRecDepth 100000 in
set_option maxHeartbeats 400000 in
theorem c_J0_charAt_5068e {h : hp} (j : Nat) (hj : j < 5)  : Cn yJ0_charAt_5068e cJ0_charAt_5068e 2 (some .char) 3 [.ref 100, .int (nI j)] h (z_eq (some (.int (chr j))) h) := by
  refine Cn.of (by decide) (Nat.le_of_ble_eq_true rfl) ?_
  refine Z.eqL (lv' := [(0, .ref 100), (1, .int (nI j))]) rfl ?_
  refine Z.aload_n (pc := 0) (i := 0) dJ0_charAt_5068e_0 rfl rfl ?_
  refine Z.callT (pc := 1) dJ0_charAt_5068e_1 (c_J0_isLatin1_aae02) rfl zm_J0_492 zv_J0_isLatin1_aae02 rfl rfl (by decide) (by decide) (Nat.le_of_ble_eq_true rfl) ?_
  refine Z.if_eq_bf (pc := 4) (tgt := 16) dJ0_charAt_5068e_4 (by decide) (rfl) ?_
  refine Z.aload_n (pc := 7) (i := 0) dJ0_charAt_5068e_7 rfl rfl ?_
  refine Z.getS_v (pc := 8) dJ0_charAt_5068e_8 zg_J0_9 ?_
  refine Z.iload_n (pc := 11) (i := 1) dJ0_charAt_5068e_11 rfl rfl ?_
  refine Z.callSi (pc := 12) dJ0_charAt_5068e_12 (c_J1_charAt_3b067 j hj) zm_J0_495 zs_J1_charAt_3b067 rfl rfl (by decide) (by decide) (Nat.le_of_ble_eq_true rfl) ?_
  refine Z.iret (pc := 15) (ty := .char) dJ0_charAt_5068e_15 rfl (chr_n j hj) ?_
  exact ⟨rfl, rfl⟩
set_option maxRecDepth 100000 in
set_option maxHeartbeats 400000 in
theorem l_X3_ofLetter {h : hp} (c : Int32) : ∀ (r i : Nat) , i + r = 5 → (∀ j, j < i → ¬ chr j = c) → Z yX3_ofLetter cX3_ofLetter 2 (some .int) 4 (z_eq (some (.int (kofI c))) h) 2 [(0, .int c), (1, .int (nI i))] [] h := by
  intro r
  induction r with
  | zero =>
    intro i hi hne
    obtain rfl : 5 = i := by omega
    refine Z.iload_n (pc := 2) (i := 1) dX3_ofLetter_2 rfl rfl ?_
    refine Z.ldcS (pc := 3) dX3_ofLetter_3 rfl ?_
    refine Z.callT (pc := 5) dX3_ofLetter_5 (c_J0_length_8abf5) rfl zm_X3_13 zv_J0_length_8abf5 rfl rfl (by decide) (by decide) (Nat.le_of_ble_eq_true rfl) ?_
    refine Z.icmp_ge_t (pc := 8) (tgt := 29) dX3_ofLetter_8 (by decide) (nI_le (a := 5) (Nat.le_refl 5) (by decide)) ?_
    refine Z.iconst (pc := 29) (v := (-1)) dX3_ofLetter_29 (by decide) ?_
    refine Z.iret (pc := 30) (ty := .int) dX3_ofLetter_30 rfl rfl ?_
    exact ⟨by rw [kof_none hne], rfl⟩
  | succ r ih =>
    intro i hi hne
    refine Z.iload_n (pc := 2) (i := 1) dX3_ofLetter_2 rfl rfl ?_
    refine Z.ldcS (pc := 3) dX3_ofLetter_3 rfl ?_
    refine Z.callT (pc := 5) dX3_ofLetter_5 (c_J0_length_8abf5) rfl zm_X3_13 zv_J0_length_8abf5 rfl rfl (by decide) (by decide) (Nat.le_of_ble_eq_true rfl) ?_
    refine Z.icmp_ge_f (pc := 8) (tgt := 29) dX3_ofLetter_8 (by decide) (nI_ge (b := 5) (by omega) (by decide)) ?_
    refine Z.ldcS (pc := 11) dX3_ofLetter_11 rfl ?_
    refine Z.iload_n (pc := 13) (i := 1) dX3_ofLetter_13 rfl rfl ?_
    refine Z.callT (pc := 14) dX3_ofLetter_14 (c_J0_charAt_5068e i (by omega)) rfl zm_X3_19 zv_J0_charAt_5068e rfl rfl (by decide) (by decide) (Nat.le_of_ble_eq_true rfl) ?_
    refine Z.iload_n (pc := 17) (i := 0) dX3_ofLetter_17 rfl rfl ?_
    refine Z.icmp_ne (pc := 18) (tgt := 23) dX3_ofLetter_18 (by decide) (fun c18 => ?_) (fun c18 => ?_)
    · refine Z.iinc (pc := 23) (i := 1) (v := (nI (i + 1))) dX3_ofLetter_23 rfl (by exact ii_1 i) (by decide) rfl ?_
      refine Z.goto (pc := 26) (tgt := 2) dX3_ofLetter_26 (by decide) ?_
      exact ih (i + 1) (by omega) (fun j hj => by rcases Nat.lt_succ_iff_lt_or_eq.mp hj with q | q; exact hne j q; exact q ▸ c18)
    · refine Z.iload_n (pc := 21) (i := 1) dX3_ofLetter_21 rfl rfl ?_
      refine Z.iret (pc := 22) (ty := .int) dX3_ofLetter_22 rfl rfl ?_
      exact ⟨by rw [← c18, kof_chr i (by omega)], rfl⟩
set_option maxRecDepth 100000 in
set_option maxHeartbeats 400000 in
theorem c_X3_ofLetter {h : hp} (c : Int32)  : Cn yX3_ofLetter cX3_ofLetter 2 (some .int) 4 [.int c] h (z_eq (some (.int (kofI c))) h) := by
  refine Cn.of (by decide) (Nat.le_of_ble_eq_true rfl) ?_
  refine Z.eqL (lv' := [(0, .int c)]) rfl ?_
  refine Z.iconst (pc := 0) (v := (nI 0)) dX3_ofLetter_0 (by decide) ?_
  refine Z.istore_n (pc := 1) (i := 1) dX3_ofLetter_1 rfl (by decide) rfl ?_
  exact l_X3_ofLetter c 5 0 rfl (fun j hj => absurd hj (Nat.not_lt_zero j))
set_option maxRecDepth 100000 in
set_option maxHeartbeats 400000 in
theorem l_X3_hintsTill {h : hp} (k ot : Int32) (a : Nat) (hk : okK k) (ha : a ≤ 9) : ∀ (r i : Nat) , i + r = a + 1 → htI k a ot r i = htT k a ot → Z yX3_hintsTill cX3_hintsTill 4 (some .int) 1 (z_eq (some (.int (htT k a ot))) h) 2 [(0, .int k), (1, .int (nI a)), (2, .int ot), (3, .int (nI i))] [] h := by
  intro r
  induction r with
  | zero =>
    intro i hi hX
    obtain rfl : a + 1 = i := by omega
    refine Z.iload_n (pc := 2) (i := 3) dX3_hintsTill_2 rfl rfl ?_
    refine Z.iload_n (pc := 3) (i := 1) dX3_hintsTill_3 rfl rfl ?_
    refine Z.icmp_gt_t (pc := 4) (tgt := 26) dX3_hintsTill_4 (by decide) (nI_lt (by omega) (by omega)) ?_
    refine Z.iconst (pc := 26) (v := (-1)) dX3_hintsTill_26 (by decide) ?_
    refine Z.iret (pc := 27) (ty := .int) dX3_hintsTill_27 rfl rfl ?_
    exact ⟨by rw [← hX]; rfl, rfl⟩
  | succ r ih =>
    intro i hi hX
    refine Z.iload_n (pc := 2) (i := 3) dX3_hintsTill_2 rfl rfl ?_
    refine Z.iload_n (pc := 3) (i := 1) dX3_hintsTill_3 rfl rfl ?_
    refine Z.icmp_gt_f (pc := 4) (tgt := 26) dX3_hintsTill_4 (by decide) (nI_nlt (by omega) (by omega)) ?_
    refine Z.iload_n (pc := 7) (i := 0) dX3_hintsTill_7 rfl rfl ?_
    refine Z.iload_n (pc := 8) (i := 1) dX3_hintsTill_8 rfl rfl ?_
    refine Z.iload_n (pc := 9) (i := 3) dX3_hintsTill_9 rfl rfl ?_
    refine Z.isub (pc := 10) dX3_hintsTill_10 ?_
    refine Z.top (pk_sub (by omega)) ?_
    refine Z.callSi (pc := 11) dX3_hintsTill_11 (c_X3_needs k _ hk) zm_X3_23 zs_X3_needs rfl rfl (by decide) (by decide) (Nat.le_of_ble_eq_true rfl) ?_
    refine Z.iload_n (pc := 14) (i := 2) dX3_hintsTill_14 rfl rfl ?_
    refine Z.icmp_gt (pc := 15) (tgt := 20) dX3_hintsTill_15 (by decide) (fun c15 => ?_) (fun c15 => ?_)
    · refine Z.iinc (pc := 20) (i := 3) (v := (nI (i + 1))) dX3_hintsTill_20 rfl (by exact ii_1 i) (by decide) rfl ?_
      refine Z.goto (pc := 23) (tgt := 2) dX3_hintsTill_23 (by decide) ?_
      exact ih (i + 1) (by omega) (by rw [← hX, htI, if_neg (lt_nle c15)])
    · refine Z.iload_n (pc := 18) (i := 3) dX3_hintsTill_18 rfl rfl ?_
      refine Z.iret (pc := 19) (ty := .int) dX3_hintsTill_19 rfl rfl ?_
      exact ⟨by rw [← hX, htI, if_pos (nlt c15)], rfl⟩
set_option maxRecDepth 100000 in
set_option maxHeartbeats 400000 in
theorem c_X3_hintsTill {h : hp} (k ot : Int32) (a : Nat) (hk : okK k) (ha : a ≤ 9)  : Cn yX3_hintsTill cX3_hintsTill 4 (some .int) 1 [.int k, .int (nI a), .int ot] h (z_eq (some (.int (htT k a ot))) h) := by
  refine Cn.of (by decide) (Nat.le_of_ble_eq_true rfl) ?_
  refine Z.eqL (lv' := [(0, .int k), (1, .int (nI a)), (2, .int ot)]) rfl ?_
  refine Z.iconst (pc := 0) (v := (nI 0)) dX3_hintsTill_0 (by decide) ?_
  refine Z.istore_n (pc := 1) (i := 3) dX3_hintsTill_1 rfl (by decide) rfl ?_
  exact l_X3_hintsTill k ot a hk ha (a + 1) 0 (by omega) rfl
set_option maxRecDepth 100000 in
set_option maxHeartbeats 400000 in
theorem c_X4_append {h : hp} {len : Nat} (hl : h.1 1 1 = nI len) (hl36 : len ≤ 36) (c : Int32) (hlt : len < 36)  : Cn yX4_append cX4_append 2 (some .int) 0 [.ref 1, .int c] h (z_eq (some (.int (nI (len + 1)))) (z_up (z_up h 2 len c) 1 1 (nI (len + 1)))) := by
  refine Cn.of (by decide) (Nat.le_of_ble_eq_true rfl) ?_
  refine Z.eqL (lv' := [(0, .ref 1), (1, .int c)]) rfl ?_
  refine Z.aload_n (pc := 0) (i := 0) dX4_append_0 rfl rfl ?_
  refine Z.getIv (pc := 1) dX4_append_1 zf_X4_15 rfl rfl hl ?_
  refine Z.bipush (pc := 4) (v := (nI 36)) dX4_append_4 (by decide) ?_
  refine Z.icmp_ge_f (pc := 6) (tgt := 29) dX4_append_6 (by decide) (nI_ge hlt (by decide)) ?_
  refine Z.aload_n (pc := 9) (i := 0) dX4_append_9 rfl rfl ?_
  refine Z.getR (pc := 10) dX4_append_10 zf_X4_9 rfl rfl ?_
  refine Z.aload_n (pc := 13) (i := 0) dX4_append_13 rfl rfl ?_
  refine Z.getIv (pc := 14) dX4_append_14 zf_X4_15 rfl rfl hl ?_
  refine Z.iload_n (pc := 17) (i := 1) dX4_append_17 rfl rfl ?_
  refine Z.iast (pc := 18) dX4_append_18 rfl hlt (by decide) ?_
  refine Z.aload_n (pc := 19) (i := 0) dX4_append_19 rfl rfl ?_
  refine Z.dup (pc := 20) dX4_append_20 rfl ?_
  refine Z.getIv (pc := 21) dX4_append_21 zf_X4_15 rfl rfl (show _ = nI len from hl) ?_
  refine Z.iconst (pc := 24) (v := (1)) dX4_append_24 (by decide) ?_
  refine Z.iadd (pc := 25) dX4_append_25 ?_
  refine Z.top (nI_1 len) ?_
  refine Z.putI (pc := 26) dX4_append_26 zp_X4_15 rfl rfl rfl rfl ?_
  refine Z.aload_n (pc := 29) (i := 0) dX4_append_29 rfl rfl ?_
  refine Z.getIv (pc := 30) dX4_append_30 zf_X4_15 rfl rfl (z_up_at _ _ _ _) ?_
  refine Z.iret (pc := 33) (ty := .int) dX4_append_33 rfl rfl ?_
  exact ⟨rfl, rfl⟩
set_option maxRecDepth 100000 in
set_option maxHeartbeats 400000 in
theorem c_X4_clear {h : hp} {len : Nat} (hl : h.1 1 1 = nI len) (hl36 : len ≤ 36)  : Cn yX4_clear cX4_clear 2 (some .int) 0 [.ref 1] h (z_eq (some (.int (nI len))) (z_up h 1 1 0)) := by
  refine Cn.of (by decide) (Nat.le_of_ble_eq_true rfl) ?_
  refine Z.eqL (lv' := [(0, .ref 1)]) rfl ?_
  refine Z.aload_n (pc := 0) (i := 0) dX4_clear_0 rfl rfl ?_
  refine Z.getIv (pc := 1) dX4_clear_1 zf_X4_15 rfl rfl hl ?_
  refine Z.istore_n (pc := 4) (i := 1) dX4_clear_4 rfl (by decide) rfl ?_
  refine Z.aload_n (pc := 5) (i := 0) dX4_clear_5 rfl rfl ?_
  refine Z.iconst (pc := 6) (v := (0)) dX4_clear_6 (by decide) ?_
  refine Z.putI (pc := 7) dX4_clear_7 zp_X4_15 rfl rfl rfl rfl ?_
  refine Z.iload_n (pc := 10) (i := 1) dX4_clear_10 rfl rfl ?_
  refine Z.iret (pc := 11) (ty := .int) dX4_clear_11 rfl rfl ?_
  exact ⟨rfl, rfl⟩
set_option maxRecDepth 100000 in
set_option maxHeartbeats 400000 in
theorem c_X4_at {h : hp} {len : Nat} (hl : h.1 1 1 = nI len) (hl36 : len ≤ 36) (p : Nat) (hp : p < len)  : Cn yX4_at cX4_at 2 (some .int) 0 [.ref 1, .int (nI p)] h (z_eq (some (.int (h.1 2 p))) h) := by
  refine Cn.of (by decide) (Nat.le_of_ble_eq_true rfl) ?_
  refine Z.eqL (lv' := [(0, .ref 1), (1, .int (nI p))]) rfl ?_
  refine Z.iload_n (pc := 0) (i := 1) dX4_at_0 rfl rfl ?_
  refine Z.if_lt_f (pc := 1) (tgt := 12) dX4_at_1 (by decide) (nI_pos (by omega)) ?_
  refine Z.iload_n (pc := 4) (i := 1) dX4_at_4 rfl rfl ?_
  refine Z.aload_n (pc := 5) (i := 0) dX4_at_5 rfl rfl ?_
  refine Z.getIv (pc := 6) dX4_at_6 zf_X4_15 rfl rfl hl ?_
  refine Z.icmp_lt_t (pc := 9) (tgt := 16) dX4_at_9 (by decide) (nI_lt hp (by omega)) ?_
  refine Z.aload_n (pc := 16) (i := 0) dX4_at_16 rfl rfl ?_
  refine Z.getR (pc := 17) dX4_at_17 zf_X4_9 rfl rfl ?_
  refine Z.iload_n (pc := 20) (i := 1) dX4_at_20 rfl rfl ?_
  refine Z.iald (pc := 21) dX4_at_21 rfl (by omega) (by decide) ?_
  refine Z.iret (pc := 22) (ty := .int) dX4_at_22 rfl rfl ?_
  exact ⟨rfl, rfl⟩
set_option maxRecDepth 100000 in
set_option maxHeartbeats 400000 in
theorem c_X4_digitAt {h : hp} {len : Nat} (hl : h.1 1 1 = nI len) (hl36 : len ≤ 36) (p : Nat) (hp : p < len)  : Cn yX4_digitAt cX4_digitAt 2 (some .int) 1 [.ref 1, .int (nI p)] h (z_eq (some (.int (h.1 2 p - 48))) h) := by
  refine Cn.of (by decide) (Nat.le_of_ble_eq_true rfl) ?_
  refine Z.eqL (lv' := [(0, .ref 1), (1, .int (nI p))]) rfl ?_
  refine Z.aload_n (pc := 0) (i := 0) dX4_digitAt_0 rfl rfl ?_
  refine Z.iload_n (pc := 1) (i := 1) dX4_digitAt_1 rfl rfl ?_
  refine Z.callVi (pc := 2) dX4_digitAt_2 (c_X4_at hl hl36 p hp) zm_X4_19 zv_X4_at rfl rfl rfl rfl (by decide) (by decide) (Nat.le_of_ble_eq_true rfl) ?_
  refine Z.bipush (pc := 5) (v := (48)) dX4_digitAt_5 (by decide) ?_
  refine Z.isub (pc := 7) dX4_digitAt_7 ?_
  refine Z.iret (pc := 8) (ty := .int) dX4_digitAt_8 rfl rfl ?_
  exact ⟨rfl, rfl⟩
set_option maxRecDepth 100000 in
set_option maxHeartbeats 400000 in
theorem c_X4_isDigitBelow {h : hp} (c b : Int32)  : Cn yX4_isDigitBelow cX4_isDigitBelow 2 (some .boolean) 0 [.int c, .int b] h (z_eq (some (.int (zb (digB c b)))) h) := by
  refine Cn.of (by decide) (Nat.le_of_ble_eq_true rfl) ?_
  refine Z.eqL (lv' := [(0, .int c), (1, .int b)]) rfl ?_
  refine Z.iload_n (pc := 0) (i := 0) dX4_isDigitBelow_0 rfl rfl ?_
  refine Z.bipush (pc := 1) (v := (48)) dX4_isDigitBelow_1 (by decide) ?_
  refine Z.icmp_lt (pc := 3) (tgt := 18) dX4_isDigitBelow_3 (by decide) (fun c3 => ?_) (fun c3 => ?_)
  · refine Z.iconst (pc := 18) (v := (0)) dX4_isDigitBelow_18 (by decide) ?_
    refine Z.iret (pc := 19) (ty := .boolean) dX4_isDigitBelow_19 rfl (by first | rfl | exact zb_nar _) ?_
    first | exact ⟨zb_f rfl (decide_eq_false (fun q => lt_nle c3 q.1)), rfl⟩ | exact ⟨zb_f rfl (decide_eq_false (fun q => lt_nle q.2 c11)), rfl⟩ | exact ⟨zb_t rfl (decide_eq_true ⟨nlt c3, nle c11⟩), rfl⟩
  · refine Z.iload_n (pc := 6) (i := 0) dX4_isDigitBelow_6 rfl rfl ?_
    refine Z.bipush (pc := 7) (v := (48)) dX4_isDigitBelow_7 (by decide) ?_
    refine Z.iload_n (pc := 9) (i := 1) dX4_isDigitBelow_9 rfl rfl ?_
    refine Z.iadd (pc := 10) dX4_isDigitBelow_10 ?_
    refine Z.icmp_ge (pc := 11) (tgt := 18) dX4_isDigitBelow_11 (by decide) (fun c11 => ?_) (fun c11 => ?_)
    · refine Z.iconst (pc := 18) (v := (0)) dX4_isDigitBelow_18 (by decide) ?_
      refine Z.iret (pc := 19) (ty := .boolean) dX4_isDigitBelow_19 rfl (by first | rfl | exact zb_nar _) ?_
      first | exact ⟨zb_f rfl (decide_eq_false (fun q => lt_nle c3 q.1)), rfl⟩ | exact ⟨zb_f rfl (decide_eq_false (fun q => lt_nle q.2 c11)), rfl⟩ | exact ⟨zb_t rfl (decide_eq_true ⟨nlt c3, nle c11⟩), rfl⟩
    · refine Z.iconst (pc := 14) (v := (1)) dX4_isDigitBelow_14 (by decide) ?_
      refine Z.goto (pc := 15) (tgt := 19) dX4_isDigitBelow_15 (by decide) ?_
      refine Z.iret (pc := 19) (ty := .boolean) dX4_isDigitBelow_19 rfl (by first | rfl | exact zb_nar _) ?_
      first | exact ⟨zb_f rfl (decide_eq_false (fun q => lt_nle c3 q.1)), rfl⟩ | exact ⟨zb_f rfl (decide_eq_false (fun q => lt_nle q.2 c11)), rfl⟩ | exact ⟨zb_t rfl (decide_eq_true ⟨nlt c3, nle c11⟩), rfl⟩
set_option maxRecDepth 100000 in
set_option maxHeartbeats 400000 in
theorem c_X4_fitsGuest_0 {h : hp} (g : Nat) (hg : g < 8) (c : Int32)  : Cn yX4_fitsGuest cX4_fitsGuest 3 (some .boolean) 5 [.int (nI g), .int (nI 0), .int c] h (z_eq (some (.int (zb (fitG g 0 c)))) h) := by
  refine Cn.of (by decide) (Nat.le_of_ble_eq_true rfl) ?_
  refine Z.eqL (lv' := [(0, .int (nI g)), (1, .int (nI 0)), (2, .int c)]) rfl ?_
  refine Z.iload_n (pc := 0) (i := 0) dX4_fitsGuest_0 rfl rfl ?_
  refine Z.bipush (pc := 1) (v := (nI 8)) dX4_fitsGuest_1 (by decide) ?_
  refine Z.icmp_lt_t (pc := 3) (tgt := 8) dX4_fitsGuest_3 (by decide) (nI_lt hg (by decide)) ?_
  refine Z.iload_n (pc := 8) (i := 1) dX4_fitsGuest_8 rfl rfl ?_
  refine Z.tableIn (pc := 9) (off := 27) (tgt := 36) dX4_fitsGuest_9 (by decide) (by decide) (by decide) (by decide) ?_
  refine Z.iload_n (pc := 36) (i := 2) dX4_fitsGuest_36 rfl rfl ?_
  refine Z.callSi (pc := 37) dX4_fitsGuest_37 (c_X3_ofLetter c) zm_X4_41 zs_X3_ofLetter rfl rfl (by decide) (by decide) (Nat.le_of_ble_eq_true rfl) ?_
  refine Z.iconst (pc := 40) (v := (-1)) dX4_fitsGuest_40 (by decide) ?_
  refine Z.icmp_eq (pc := 41) (tgt := 48) dX4_fitsGuest_41 (by decide) (fun c41 => ?_) (fun c41 => ?_)
  · refine Z.iconst (pc := 48) (v := (0)) dX4_fitsGuest_48 (by decide) ?_
    refine Z.iret (pc := 49) (ty := .boolean) dX4_fitsGuest_49 rfl (by first | rfl | exact zb_nar _) ?_
    refine ⟨?_, rfl⟩
    first | (refine zb_f rfl ?_; simp [fitG, c41]; done) | (refine zb_t rfl ?_; simp [fitG, c41, hg]; done)
  · refine Z.iconst (pc := 44) (v := (1)) dX4_fitsGuest_44 (by decide) ?_
    refine Z.goto (pc := 45) (tgt := 49) dX4_fitsGuest_45 (by decide) ?_
    refine Z.iret (pc := 49) (ty := .boolean) dX4_fitsGuest_49 rfl (by first | rfl | exact zb_nar _) ?_
    refine ⟨?_, rfl⟩
    first | (refine zb_f rfl ?_; simp [fitG, c41]; done) | (refine zb_t rfl ?_; simp [fitG, c41, hg]; done)
set_option maxRecDepth 100000 in
set_option maxHeartbeats 400000 in
theorem c_X4_fitsGuest_1 {h : hp} (g : Nat) (hg : g < 8) (c : Int32)  : Cn yX4_fitsGuest cX4_fitsGuest 3 (some .boolean) 5 [.int (nI g), .int (nI 1), .int c] h (z_eq (some (.int (zb (fitG g 1 c)))) h) := by
  refine Cn.of (by decide) (Nat.le_of_ble_eq_true rfl) ?_
  refine Z.eqL (lv' := [(0, .int (nI g)), (1, .int (nI 1)), (2, .int c)]) rfl ?_
  refine Z.iload_n (pc := 0) (i := 0) dX4_fitsGuest_0 rfl rfl ?_
  refine Z.bipush (pc := 1) (v := (nI 8)) dX4_fitsGuest_1 (by decide) ?_
  refine Z.icmp_lt_t (pc := 3) (tgt := 8) dX4_fitsGuest_3 (by decide) (nI_lt hg (by decide)) ?_
  refine Z.iload_n (pc := 8) (i := 1) dX4_fitsGuest_8 rfl rfl ?_
  refine Z.tableIn (pc := 9) (off := 41) (tgt := 50) dX4_fitsGuest_9 (by decide) (by decide) (by decide) (by decide) ?_
  refine Z.iload_n (pc := 50) (i := 2) dX4_fitsGuest_50 rfl rfl ?_
  refine Z.bipush (pc := 51) (v := (10)) dX4_fitsGuest_51 (by decide) ?_
  refine Z.callSi (pc := 53) dX4_fitsGuest_53 (c_X4_isDigitBelow _ _) zm_X4_34 zs_X4_isDigitBelow rfl rfl (by decide) (by decide) (Nat.le_of_ble_eq_true rfl) ?_
  refine Z.iret (pc := 56) (ty := .boolean) dX4_fitsGuest_56 rfl (by first | rfl | exact zb_nar _) ?_
  refine ⟨?_, rfl⟩
  simp [fitG, hg]
set_option maxRecDepth 100000 in
set_option maxHeartbeats 400000 in
theorem c_X4_fitsGuest_2 {h : hp} (g : Nat) (hg : g < 8) (c : Int32)  : Cn yX4_fitsGuest cX4_fitsGuest 3 (some .boolean) 5 [.int (nI g), .int (nI 2), .int c] h (z_eq (some (.int (zb (fitG g 2 c)))) h) := by
  refine Cn.of (by decide) (Nat.le_of_ble_eq_true rfl) ?_
  refine Z.eqL (lv' := [(0, .int (nI g)), (1, .int (nI 2)), (2, .int c)]) rfl ?_
  refine Z.iload_n (pc := 0) (i := 0) dX4_fitsGuest_0 rfl rfl ?_
  refine Z.bipush (pc := 1) (v := (nI 8)) dX4_fitsGuest_1 (by decide) ?_
  refine Z.icmp_lt_t (pc := 3) (tgt := 8) dX4_fitsGuest_3 (by decide) (nI_lt hg (by decide)) ?_
  refine Z.iload_n (pc := 8) (i := 1) dX4_fitsGuest_8 rfl rfl ?_
  refine Z.tableIn (pc := 9) (off := 48) (tgt := 57) dX4_fitsGuest_9 (by decide) (by decide) (by decide) (by decide) ?_
  refine Z.iload_n (pc := 57) (i := 2) dX4_fitsGuest_57 rfl rfl ?_
  refine Z.bipush (pc := 58) (v := (45)) dX4_fitsGuest_58 (by decide) ?_
  refine Z.icmp_eq (pc := 60) (tgt := 71) dX4_fitsGuest_60 (by decide) (fun c60 => ?_) (fun c60 => ?_)
  · refine Z.iconst (pc := 71) (v := (1)) dX4_fitsGuest_71 (by decide) ?_
    refine Z.goto (pc := 72) (tgt := 76) dX4_fitsGuest_72 (by decide) ?_
    refine Z.iret (pc := 76) (ty := .boolean) dX4_fitsGuest_76 rfl (by first | rfl | exact zb_nar _) ?_
    refine ⟨?_, rfl⟩
    first | (refine zb_t rfl ?_; simp [fitG, c60, hg]; done) | (refine zb_t rfl ?_; simp [fitG, c68, hg]; done) | (refine zb_f rfl ?_; simp [fitG, c60, c68]; done)
  · refine Z.iload_n (pc := 63) (i := 2) dX4_fitsGuest_63 rfl rfl ?_
    refine Z.iload_n (pc := 64) (i := 0) dX4_fitsGuest_64 rfl rfl ?_
    refine Z.callSi (pc := 65) dX4_fitsGuest_65 (c_X4_isDigitBelow _ _) zm_X4_34 zs_X4_isDigitBelow rfl rfl (by decide) (by decide) (Nat.le_of_ble_eq_true rfl) ?_
    refine Z.if_eq_b (pc := 68) (tgt := 75) dX4_fitsGuest_68 (by decide) (fun c68 => ?_) (fun c68 => ?_)
    · refine Z.iconst (pc := 75) (v := (0)) dX4_fitsGuest_75 (by decide) ?_
      refine Z.iret (pc := 76) (ty := .boolean) dX4_fitsGuest_76 rfl (by first | rfl | exact zb_nar _) ?_
      refine ⟨?_, rfl⟩
      first | (refine zb_t rfl ?_; simp [fitG, c60, hg]; done) | (refine zb_t rfl ?_; simp [fitG, c68, hg]; done) | (refine zb_f rfl ?_; simp [fitG, c60, c68]; done)
    · refine Z.iconst (pc := 71) (v := (1)) dX4_fitsGuest_71 (by decide) ?_
      refine Z.goto (pc := 72) (tgt := 76) dX4_fitsGuest_72 (by decide) ?_
      refine Z.iret (pc := 76) (ty := .boolean) dX4_fitsGuest_76 rfl (by first | rfl | exact zb_nar _) ?_
      refine ⟨?_, rfl⟩
      first | (refine zb_t rfl ?_; simp [fitG, c60, hg]; done) | (refine zb_t rfl ?_; simp [fitG, c68, hg]; done) | (refine zb_f rfl ?_; simp [fitG, c60, c68]; done)
set_option maxRecDepth 100000 in
set_option maxHeartbeats 400000 in
theorem c_X4_fitsGuest_3 {h : hp} (g : Nat) (hg : g < 8) (c : Int32)  : Cn yX4_fitsGuest cX4_fitsGuest 3 (some .boolean) 5 [.int (nI g), .int (nI 3), .int c] h (z_eq (some (.int (zb (fitG g 3 c)))) h) := by
  refine Cn.of (by decide) (Nat.le_of_ble_eq_true rfl) ?_
  refine Z.eqL (lv' := [(0, .int (nI g)), (1, .int (nI 3)), (2, .int c)]) rfl ?_
  refine Z.iload_n (pc := 0) (i := 0) dX4_fitsGuest_0 rfl rfl ?_
  refine Z.bipush (pc := 1) (v := (nI 8)) dX4_fitsGuest_1 (by decide) ?_
  refine Z.icmp_lt_t (pc := 3) (tgt := 8) dX4_fitsGuest_3 (by decide) (nI_lt hg (by decide)) ?_
  refine Z.iload_n (pc := 8) (i := 1) dX4_fitsGuest_8 rfl rfl ?_
  refine Z.tableOut (pc := 9) (tgt := 77) dX4_fitsGuest_9 (by decide) (by decide) ?_
  refine Z.iload_n (pc := 77) (i := 2) dX4_fitsGuest_77 rfl rfl ?_
  refine Z.bipush (pc := 78) (v := (44)) dX4_fitsGuest_78 (by decide) ?_
  refine Z.icmp_ne (pc := 80) (tgt := 93) dX4_fitsGuest_80 (by decide) (fun c80 => ?_) (fun c80 => ?_)
  · refine Z.iconst (pc := 93) (v := (0)) dX4_fitsGuest_93 (by decide) ?_
    refine Z.iret (pc := 94) (ty := .boolean) dX4_fitsGuest_94 rfl (by first | rfl | exact zb_nar _) ?_
    refine ⟨?_, rfl⟩
    first | (refine zb_f rfl ?_; simp [fitG, c80]; done) | (refine zb_t rfl ?_; have : g < 7 := Nat.not_le.mp (fun q => c86 (nI_le q (by omega))); simp [fitG, c80, this]; omega) | (refine zb_f rfl ?_; have : ¬ g < 7 := fun q => nI_ge q (by decide) c86; simp [fitG, this]; done)
  · refine Z.iload_n (pc := 83) (i := 0) dX4_fitsGuest_83 rfl rfl ?_
    refine Z.bipush (pc := 84) (v := (nI 7)) dX4_fitsGuest_84 (by decide) ?_
    refine Z.icmp_ge (pc := 86) (tgt := 93) dX4_fitsGuest_86 (by decide) (fun c86 => ?_) (fun c86 => ?_)
    · refine Z.iconst (pc := 93) (v := (0)) dX4_fitsGuest_93 (by decide) ?_
      refine Z.iret (pc := 94) (ty := .boolean) dX4_fitsGuest_94 rfl (by first | rfl | exact zb_nar _) ?_
      refine ⟨?_, rfl⟩
      first | (refine zb_f rfl ?_; simp [fitG, c80]; done) | (refine zb_t rfl ?_; have : g < 7 := Nat.not_le.mp (fun q => c86 (nI_le q (by omega))); simp [fitG, c80, this]; omega) | (refine zb_f rfl ?_; have : ¬ g < 7 := fun q => nI_ge q (by decide) c86; simp [fitG, this]; done)
    · refine Z.iconst (pc := 89) (v := (1)) dX4_fitsGuest_89 (by decide) ?_
      refine Z.goto (pc := 90) (tgt := 94) dX4_fitsGuest_90 (by decide) ?_
      refine Z.iret (pc := 94) (ty := .boolean) dX4_fitsGuest_94 rfl (by first | rfl | exact zb_nar _) ?_
      refine ⟨?_, rfl⟩
      first | (refine zb_f rfl ?_; simp [fitG, c80]; done) | (refine zb_t rfl ?_; have : g < 7 := Nat.not_le.mp (fun q => c86 (nI_le q (by omega))); simp [fitG, c80, this]; omega) | (refine zb_f rfl ?_; have : ¬ g < 7 := fun q => nI_ge q (by decide) c86; simp [fitG, this]; done)
set_option maxRecDepth 100000 in
set_option maxHeartbeats 400000 in
theorem c_X4_fitsGuest_8 {h : hp} (g st : Nat) (hg : 8 ≤ g) (hg2 : g ≤ 8) (c : Int32)  : Cn yX4_fitsGuest cX4_fitsGuest 3 (some .boolean) 5 [.int (nI g), .int (nI st), .int c] h (z_eq (some (.int (zb (fitG g st c)))) h) := by
  refine Cn.of (by decide) (Nat.le_of_ble_eq_true rfl) ?_
  refine Z.eqL (lv' := [(0, .int (nI g)), (1, .int (nI st)), (2, .int c)]) rfl ?_
  refine Z.iload_n (pc := 0) (i := 0) dX4_fitsGuest_0 rfl rfl ?_
  refine Z.bipush (pc := 1) (v := (nI 8)) dX4_fitsGuest_1 (by decide) ?_
  refine Z.icmp_lt_f (pc := 3) (tgt := 8) dX4_fitsGuest_3 (by decide) (nI_nlt hg (by omega)) ?_
  refine Z.iconst (pc := 6) (v := (0)) dX4_fitsGuest_6 (by decide) ?_
  refine Z.iret (pc := 7) (ty := .boolean) dX4_fitsGuest_7 rfl (by first | rfl | exact zb_nar _) ?_
  refine ⟨zb_f rfl ?_, rfl⟩
  have : ¬ g < 8 := by omega
  simp [fitG, this]
theorem c_X4_fitsGuest {h : hp} (g st : Nat) (hg : g ≤ 8) (hs : st < 4) (c : Int32) : Cn yX4_fitsGuest cX4_fitsGuest 3 (some .boolean) 5 [.int (nI g), .int (nI st), .int c] h (z_eq (some (.int (zb (fitG g st c)))) h) := by
  rcases Nat.lt_or_ge g 8 with q | q
  · rcases (show st = 0 ∨ st = 1 ∨ st = 2 ∨ st = 3 by omega) with rfl | rfl | rfl | rfl
    · exact c_X4_fitsGuest_0 g q c
    · exact c_X4_fitsGuest_1 g q c
    · exact c_X4_fitsGuest_2 g q c
    · exact c_X4_fitsGuest_3 g q c
  · exact c_X4_fitsGuest_8 g st q hg c
set_option maxRecDepth 100000 in
set_option maxHeartbeats 400000 in
theorem c_X4_fits {h : hp} (p : Nat) (hp : p < 36) (c : Int32)  : Cn yX4_fits cX4_fits 2 (some .boolean) 6 [.int (nI p), .int c] h (z_eq (some (.int (zb (fitB p c)))) h) := by
  refine Cn.of (by decide) (Nat.le_of_ble_eq_true rfl) ?_
  refine Z.eqL (lv' := [(0, .int (nI p)), (1, .int c)]) rfl ?_
  refine Z.iload_n (pc := 0) (i := 0) dX4_fits_0 rfl rfl ?_
  refine Z.iconst (pc := 1) (v := (nI 2)) dX4_fits_1 (by decide) ?_
  refine Z.icmp_ge (pc := 2) (tgt := 12) dX4_fits_2 (by decide) (fun c2 => ?_) (fun c2 => ?_)
  · have p2 : ¬ p < 2 := fun q => nI_ge q (by decide) c2
    refine Z.iload_n (pc := 12) (i := 0) dX4_fits_12 rfl rfl ?_
    refine Z.iconst (pc := 13) (v := (nI 2)) dX4_fits_13 (by decide) ?_
    refine Z.icmp_ne (pc := 14) (tgt := 29) dX4_fits_14 (by decide) (fun c14 => ?_) (fun c14 => ?_)
    · have p3 : ¬ p = 2 := fun q => c14 (by rw [q])
      refine Z.iload_n (pc := 29) (i := 0) dX4_fits_29 rfl rfl ?_
      refine Z.iconst (pc := 30) (v := (nI 3)) dX4_fits_30 (by decide) ?_
      refine Z.isub (pc := 31) dX4_fits_31 ?_
      refine Z.top (pk_sub (by omega)) ?_
      refine Z.iconst (pc := 32) (v := (nI 4)) dX4_fits_32 (by decide) ?_
      refine Z.idiv (pc := 33) dX4_fits_33 (by decide) ?_
      refine Z.top (pk_div (by omega) (by decide) (by decide)) ?_
      refine Z.iload_n (pc := 34) (i := 0) dX4_fits_34 rfl rfl ?_
      refine Z.iconst (pc := 35) (v := (nI 3)) dX4_fits_35 (by decide) ?_
      refine Z.isub (pc := 36) dX4_fits_36 ?_
      refine Z.top (pk_sub (by omega)) ?_
      refine Z.iconst (pc := 37) (v := (nI 4)) dX4_fits_37 (by decide) ?_
      refine Z.irem (pc := 38) dX4_fits_38 (by decide) ?_
      refine Z.top (pk_rem (by omega) (by decide) (by decide)) ?_
      refine Z.iload_n (pc := 39) (i := 1) dX4_fits_39 rfl rfl ?_
      refine Z.callSi (pc := 40) dX4_fits_40 (c_X4_fitsGuest _ _ (by omega) (Nat.mod_lt _ (by decide)) c) zm_X4_37 zs_X4_fitsGuest rfl rfl (by decide) (by decide) (Nat.le_of_ble_eq_true rfl) ?_
      refine Z.iret (pc := 43) (ty := .boolean) dX4_fits_43 rfl (by first | rfl | exact zb_nar _) ?_
      exact ⟨by simp [fitB, p2, p3], rfl⟩
    · have p3 : p = 2 := (nI_eq (by omega) (by decide)).mp c14
      refine Z.iload_n (pc := 17) (i := 1) dX4_fits_17 rfl rfl ?_
      refine Z.bipush (pc := 18) (v := (59)) dX4_fits_18 (by decide) ?_
      refine Z.icmp_ne (pc := 20) (tgt := 27) dX4_fits_20 (by decide) (fun c20 => ?_) (fun c20 => ?_)
      · refine Z.iconst (pc := 27) (v := (0)) dX4_fits_27 (by decide) ?_
        refine Z.iret (pc := 28) (ty := .boolean) dX4_fits_28 rfl (by first | rfl | exact zb_nar _) ?_
        refine ⟨?_, rfl⟩
        first | (refine zb_f rfl ?_; simp [fitB, p2, p3, c20]; done) | (refine zb_t rfl ?_; simp [fitB, p3, c20]; done)
      · refine Z.iconst (pc := 23) (v := (1)) dX4_fits_23 (by decide) ?_
        refine Z.goto (pc := 24) (tgt := 28) dX4_fits_24 (by decide) ?_
        refine Z.iret (pc := 28) (ty := .boolean) dX4_fits_28 rfl (by first | rfl | exact zb_nar _) ?_
        refine ⟨?_, rfl⟩
        first | (refine zb_f rfl ?_; simp [fitB, p2, p3, c20]; done) | (refine zb_t rfl ?_; simp [fitB, p3, c20]; done)
  · have p2 : p < 2 := Nat.not_le.mp (fun q => c2 (nI_le q (by omega)))
    refine Z.iload_n (pc := 5) (i := 1) dX4_fits_5 rfl rfl ?_
    refine Z.bipush (pc := 6) (v := (10)) dX4_fits_6 (by decide) ?_
    refine Z.callSi (pc := 8) dX4_fits_8 (c_X4_isDigitBelow _ _) zm_X4_34 zs_X4_isDigitBelow rfl rfl (by decide) (by decide) (Nat.le_of_ble_eq_true rfl) ?_
    refine Z.iret (pc := 11) (ty := .boolean) dX4_fits_11 rfl (by first | rfl | exact zb_nar _) ?_
    exact ⟨by simp [fitB, p2], rfl⟩
set_option maxRecDepth 100000 in
set_option maxHeartbeats 400000 in
theorem l_X4_firstFault {h : hp} {len : Nat} (hl : h.1 1 1 = nI len) (hl36 : len ≤ 36) : ∀ (r i : Nat) , i + r = len → fstB (fun p => !fitB p (h.1 2 p)) r i = ffN (h.1 2) len → Z yX4_firstFault cX4_firstFault 2 (some .int) 7 (z_eq (some (.int (nI (ffN (h.1 2) len)))) h) 2 [(0, .ref 1), (1, .int (nI i))] [] h := by
  intro r
  induction r with
  | zero =>
    intro i hi hX
    obtain rfl : len = i := by omega
    refine Z.iload_n (pc := 2) (i := 1) dX4_firstFault_2 rfl rfl ?_
    refine Z.aload_n (pc := 3) (i := 0) dX4_firstFault_3 rfl rfl ?_
    refine Z.getIv (pc := 4) dX4_firstFault_4 zf_X4_15 rfl rfl hl ?_
    refine Z.icmp_ge_t (pc := 7) (tgt := 37) dX4_firstFault_7 (by decide) (nI_le (Nat.le_refl _) (by omega)) ?_
    refine Z.aload_n (pc := 37) (i := 0) dX4_firstFault_37 rfl rfl ?_
    refine Z.getIv (pc := 38) dX4_firstFault_38 zf_X4_15 rfl rfl hl ?_
    refine Z.iret (pc := 41) (ty := .int) dX4_firstFault_41 rfl rfl ?_
    exact ⟨by rw [← hX]; rfl, rfl⟩
  | succ r ih =>
    intro i hi hX
    refine Z.iload_n (pc := 2) (i := 1) dX4_firstFault_2 rfl rfl ?_
    refine Z.aload_n (pc := 3) (i := 0) dX4_firstFault_3 rfl rfl ?_
    refine Z.getIv (pc := 4) dX4_firstFault_4 zf_X4_15 rfl rfl hl ?_
    refine Z.icmp_ge_f (pc := 7) (tgt := 37) dX4_firstFault_7 (by decide) (nI_ge (by omega) (by omega)) ?_
    refine Z.iload_n (pc := 10) (i := 1) dX4_firstFault_10 rfl rfl ?_
    refine Z.bipush (pc := 11) (v := (nI 36)) dX4_firstFault_11 (by decide) ?_
    refine Z.icmp_ge_f (pc := 13) (tgt := 37) dX4_firstFault_13 (by decide) (nI_ge (by omega) (by decide)) ?_
    refine Z.iload_n (pc := 16) (i := 1) dX4_firstFault_16 rfl rfl ?_
    refine Z.aload_n (pc := 17) (i := 0) dX4_firstFault_17 rfl rfl ?_
    refine Z.getR (pc := 18) dX4_firstFault_18 zf_X4_9 rfl rfl ?_
    refine Z.iload_n (pc := 21) (i := 1) dX4_firstFault_21 rfl rfl ?_
    refine Z.iald (pc := 22) dX4_firstFault_22 rfl (by omega) (by decide) ?_
    refine Z.callSi (pc := 23) dX4_firstFault_23 (c_X4_fits i (by omega) _) zm_X4_23 zs_X4_fits rfl rfl (by decide) (by decide) (Nat.le_of_ble_eq_true rfl) ?_
    refine Z.if_ne_b (pc := 26) (tgt := 31) dX4_firstFault_26 (by decide) (fun c26 => ?_) (fun c26 => ?_)
    · refine Z.iinc (pc := 31) (i := 1) (v := (nI (i + 1))) dX4_firstFault_31 rfl (by exact ii_1 i) (by decide) rfl ?_
      refine Z.goto (pc := 34) (tgt := 2) dX4_firstFault_34 (by decide) ?_
      exact ih (i + 1) (by omega) (by rw [← hX]; simp [fstB, c26])
    · refine Z.iload_n (pc := 29) (i := 1) dX4_firstFault_29 rfl rfl ?_
      refine Z.iret (pc := 30) (ty := .int) dX4_firstFault_30 rfl rfl ?_
      exact ⟨by rw [← hX]; simp [fstB, c26], rfl⟩
set_option maxRecDepth 100000 in
set_option maxHeartbeats 400000 in
theorem c_X4_firstFault {h : hp} {len : Nat} (hl : h.1 1 1 = nI len) (hl36 : len ≤ 36)  : Cn yX4_firstFault cX4_firstFault 2 (some .int) 7 [.ref 1] h (z_eq (some (.int (nI (ffN (h.1 2) len)))) h) := by
  refine Cn.of (by decide) (Nat.le_of_ble_eq_true rfl) ?_
  refine Z.eqL (lv' := [(0, .ref 1)]) rfl ?_
  refine Z.iconst (pc := 0) (v := (nI 0)) dX4_firstFault_0 (by decide) ?_
  refine Z.istore_n (pc := 1) (i := 1) dX4_firstFault_1 rfl (by decide) rfl ?_
  exact l_X4_firstFault hl hl36 len 0 (by omega) rfl
set_option maxRecDepth 100000 in
set_option maxHeartbeats 400000 in
theorem c_X4_guests {h : hp} {len : Nat} (hl : h.1 1 1 = nI len) (hl36 : len ≤ 36) (h3 : 3 ≤ len)  : Cn yX4_guests cX4_guests 1 (some .int) 0 [.ref 1] h (z_eq (some (.int (nI ((len - 2) / 4)))) h) := by
  refine Cn.of (by decide) (Nat.le_of_ble_eq_true rfl) ?_
  refine Z.eqL (lv' := [(0, .ref 1)]) rfl ?_
  refine Z.aload_n (pc := 0) (i := 0) dX4_guests_0 rfl rfl ?_
  refine Z.getIv (pc := 1) dX4_guests_1 zf_X4_15 rfl rfl hl ?_
  refine Z.iconst (pc := 4) (v := (nI 3)) dX4_guests_4 (by decide) ?_
  refine Z.isub (pc := 5) dX4_guests_5 ?_
  refine Z.top (pk_sub h3) ?_
  refine Z.iconst (pc := 6) (v := (nI 1)) dX4_guests_6 (by decide) ?_
  refine Z.iadd (pc := 7) dX4_guests_7 ?_
  refine Z.top ((nI_add _ _).trans (congrArg nI (show len - 3 + 1 = len - 2 by omega))) ?_
  refine Z.iconst (pc := 8) (v := (nI 4)) dX4_guests_8 (by decide) ?_
  refine Z.idiv (pc := 9) dX4_guests_9 (by decide) ?_
  refine Z.top (pk_div (by omega) (by decide) (by decide)) ?_
  refine Z.iret (pc := 10) (ty := .int) dX4_guests_10 rfl rfl ?_
  exact ⟨rfl, rfl⟩
set_option maxRecDepth 100000 in
set_option maxHeartbeats 400000 in
theorem c_X4_placeOf {h : hp} (g : Nat)  : Cn yX4_placeOf cX4_placeOf 1 (some .int) 0 [.int (nI g)] h (z_eq (some (.int (nI (3 + 4 * g)))) h) := by
  refine Cn.of (by decide) (Nat.le_of_ble_eq_true rfl) ?_
  refine Z.eqL (lv' := [(0, .int (nI g))]) rfl ?_
  refine Z.iconst (pc := 0) (v := (nI 3)) dX4_placeOf_0 (by decide) ?_
  refine Z.iconst (pc := 1) (v := (nI 4)) dX4_placeOf_1 (by decide) ?_
  refine Z.iload_n (pc := 2) (i := 0) dX4_placeOf_2 rfl rfl ?_
  refine Z.imul (pc := 3) dX4_placeOf_3 ?_
  refine Z.top (pk_mul _ _) ?_
  refine Z.iadd (pc := 4) dX4_placeOf_4 ?_
  refine Z.top (nI_add _ _) ?_
  refine Z.iret (pc := 5) (ty := .int) dX4_placeOf_5 rfl rfl ?_
  exact ⟨rfl, rfl⟩
set_option maxRecDepth 100000 in
set_option maxHeartbeats 400000 in
theorem c_X4_isParty {h : hp} {len : Nat} (hl : h.1 1 1 = nI len) (hl36 : len ≤ 36)  : Cn yX4_isParty cX4_isParty 2 (some .boolean) 8 [.ref 1] h (z_eq (some (.int (zb (isP (h.1 2) len)))) h) := by
  refine Cn.of (by decide) (Nat.le_of_ble_eq_true rfl) ?_
  refine Z.eqL (lv' := [(0, .ref 1)]) rfl ?_
  refine Z.aload_n (pc := 0) (i := 0) dX4_isParty_0 rfl rfl ?_
  refine Z.getIv (pc := 1) dX4_isParty_1 zf_X4_15 rfl rfl hl ?_
  refine Z.iconst (pc := 4) (v := (nI 3)) dX4_isParty_4 (by decide) ?_
  refine Z.icmp_le (pc := 5) (tgt := 24) dX4_isParty_5 (by decide) (fun c5 => ?_) (fun c5 => ?_)
  · have q1 : ¬ 3 < len := fun q => nI_nle2 q (by omega) c5
    refine Z.iconst (pc := 24) (v := (0)) dX4_isParty_24 (by decide) ?_
    refine Z.istore_n (pc := 25) (i := 1) dX4_isParty_25 rfl (by decide) rfl ?_
    refine Z.iload_n (pc := 26) (i := 1) dX4_isParty_26 rfl rfl ?_
    refine Z.if_eq_t (pc := 27) (tgt := 53) dX4_isParty_27 (by decide) (by decide) ?_
    refine Z.iconst (pc := 53) (v := (0)) dX4_isParty_53 (by decide) ?_
    refine Z.iret (pc := 54) (ty := .boolean) dX4_isParty_54 rfl (by first | rfl | exact zb_nar _) ?_
    refine ⟨?_, rfl⟩
    first | (refine zb_f rfl ?_; simp [isP, *]; done) | (refine zb_t rfl ?_; simp [isP, *]; done)
  · have q1 : 3 < len := Nat.not_le.mp (fun q => c5 (nI_le q (by omega)))
    refine Z.aload_n (pc := 8) (i := 0) dX4_isParty_8 rfl rfl ?_
    refine Z.getIv (pc := 9) dX4_isParty_9 zf_X4_15 rfl rfl hl ?_
    refine Z.iconst (pc := 12) (v := (nI 3)) dX4_isParty_12 (by decide) ?_
    refine Z.isub (pc := 13) dX4_isParty_13 ?_
    refine Z.top (pk_sub (by omega)) ?_
    refine Z.iconst (pc := 14) (v := (nI 4)) dX4_isParty_14 (by decide) ?_
    refine Z.irem (pc := 15) dX4_isParty_15 (by decide) ?_
    refine Z.top (pk_rem (by omega) (by decide) (by decide)) ?_
    refine Z.iconst (pc := 16) (v := (nI 3)) dX4_isParty_16 (by decide) ?_
    refine Z.icmp_ne (pc := 17) (tgt := 24) dX4_isParty_17 (by decide) (fun c17 => ?_) (fun c17 => ?_)
    · have q2 : ¬ (len - 3) % 4 = 3 := fun q => c17 (by rw [q])
      refine Z.iconst (pc := 24) (v := (0)) dX4_isParty_24 (by decide) ?_
      refine Z.istore_n (pc := 25) (i := 1) dX4_isParty_25 rfl (by decide) rfl ?_
      refine Z.iload_n (pc := 26) (i := 1) dX4_isParty_26 rfl rfl ?_
      refine Z.if_eq_t (pc := 27) (tgt := 53) dX4_isParty_27 (by decide) (by decide) ?_
      refine Z.iconst (pc := 53) (v := (0)) dX4_isParty_53 (by decide) ?_
      refine Z.iret (pc := 54) (ty := .boolean) dX4_isParty_54 rfl (by first | rfl | exact zb_nar _) ?_
      refine ⟨?_, rfl⟩
      first | (refine zb_f rfl ?_; simp [isP, *]; done) | (refine zb_t rfl ?_; simp [isP, *]; done)
    · have q2 : (len - 3) % 4 = 3 := (nI_eq (by omega) (by decide)).mp c17
      refine Z.iconst (pc := 20) (v := (1)) dX4_isParty_20 (by decide) ?_
      refine Z.goto (pc := 21) (tgt := 25) dX4_isParty_21 (by decide) ?_
      refine Z.istore_n (pc := 25) (i := 1) dX4_isParty_25 rfl (by decide) rfl ?_
      refine Z.iload_n (pc := 26) (i := 1) dX4_isParty_26 rfl rfl ?_
      refine Z.if_eq_f (pc := 27) (tgt := 53) dX4_isParty_27 (by decide) (by decide) ?_
      refine Z.aload_n (pc := 30) (i := 0) dX4_isParty_30 rfl rfl ?_
      refine Z.callVi (pc := 31) dX4_isParty_31 (c_X4_guests hl hl36 (by omega)) zm_X4_27 zv_X4_guests rfl rfl rfl rfl (by decide) (by decide) (Nat.le_of_ble_eq_true rfl) ?_
      refine Z.iconst (pc := 34) (v := (nI 2)) dX4_isParty_34 (by decide) ?_
      refine Z.icmp_lt (pc := 35) (tgt := 53) dX4_isParty_35 (by decide) (fun c35 => ?_) (fun c35 => ?_)
      · have q3 : ¬ 2 ≤ (len - 2) / 4 := fun q => nI_nlt q (by omega) c35
        refine Z.iconst (pc := 53) (v := (0)) dX4_isParty_53 (by decide) ?_
        refine Z.iret (pc := 54) (ty := .boolean) dX4_isParty_54 rfl (by first | rfl | exact zb_nar _) ?_
        refine ⟨?_, rfl⟩
        first | (refine zb_f rfl ?_; simp [isP, *]; done) | (refine zb_t rfl ?_; simp [isP, *]; done)
      · have q3 : 2 ≤ (len - 2) / 4 := Nat.not_lt.mp (fun q => c35 (nI_lt q (by omega)))
        refine Z.aload_n (pc := 38) (i := 0) dX4_isParty_38 rfl rfl ?_
        refine Z.callVi (pc := 39) dX4_isParty_39 (c_X4_firstFault hl hl36) zm_X4_31 zv_X4_firstFault rfl rfl rfl rfl (by decide) (by decide) (Nat.le_of_ble_eq_true rfl) ?_
        refine Z.aload_n (pc := 42) (i := 0) dX4_isParty_42 rfl rfl ?_
        refine Z.getIv (pc := 43) dX4_isParty_43 zf_X4_15 rfl rfl hl ?_
        refine Z.icmp_ne (pc := 46) (tgt := 53) dX4_isParty_46 (by decide) (fun c46 => ?_) (fun c46 => ?_)
        · have q4 : ¬ ffN (h.1 2) len = len := fun q => c46 (by rw [q])
          refine Z.iconst (pc := 53) (v := (0)) dX4_isParty_53 (by decide) ?_
          refine Z.iret (pc := 54) (ty := .boolean) dX4_isParty_54 rfl (by first | rfl | exact zb_nar _) ?_
          refine ⟨?_, rfl⟩
          first | (refine zb_f rfl ?_; simp [isP, *]; done) | (refine zb_t rfl ?_; simp [isP, *]; done)
        · have q4 : ffN (h.1 2) len = len := (nI_eq (Nat.lt_of_le_of_lt (ff_le _ _) (by omega)) (by omega)).mp c46
          refine Z.iconst (pc := 49) (v := (1)) dX4_isParty_49 (by decide) ?_
          refine Z.goto (pc := 50) (tgt := 54) dX4_isParty_50 (by decide) ?_
          refine Z.iret (pc := 54) (ty := .boolean) dX4_isParty_54 rfl (by first | rfl | exact zb_nar _) ?_
          refine ⟨?_, rfl⟩
          first | (refine zb_f rfl ?_; simp [isP, *]; done) | (refine zb_t rfl ?_; simp [isP, *]; done)
