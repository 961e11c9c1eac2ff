set_option maxRecDepth 100000 in
set_option maxHeartbeats 400000 in
theorem c_X5_isChoice {h : hp} {hr : Nat} (hh : h.1 23 1 = nI hr) (m : Nat) (hm : m < 2 ^ 31)  : Cn yX5_isChoice cX5_isChoice 2 (some .boolean) 0 [.ref 23, .int (nI m)] h (z_eq (some (.int (zb (chB hr m)))) h) := by
  refine Cn.of (by decide) (Nat.le_of_ble_eq_true rfl) ?_
  refine Z.eqL (lv' := [(0, .ref 23), (1, .int (nI m))]) rfl ?_
  refine Z.iload_n (pc := 0) (i := 1) dX5_isChoice_0 rfl rfl ?_
  refine Z.aload_n (pc := 1) (i := 0) dX5_isChoice_1 rfl rfl ?_
  refine Z.getIv (pc := 2) dX5_isChoice_2 zf_X5_21 rfl rfl hh ?_
  refine Z.iconst (pc := 5) (v := (-1)) dX5_isChoice_5 (by decide) ?_
  refine Z.ixor (pc := 6) dX5_isChoice_6 ?_
  refine Z.iand (pc := 7) dX5_isChoice_7 ?_
  refine Z.top (nb_dif _ _) ?_
  refine Z.if_ne (pc := 8) (tgt := 15) dX5_isChoice_8 (by decide) (fun c8 => ?_) (fun c8 => ?_)
  · have q : ¬ dif m hr = 0 := fun q => c8 (by rw [q]; rfl)
    refine Z.iconst (pc := 15) (v := (0)) dX5_isChoice_15 (by decide) ?_
    refine Z.iret (pc := 16) (ty := .boolean) dX5_isChoice_16 rfl (by first | rfl | exact zb_nar _) ?_
    first | exact ⟨zb_f rfl (decide_eq_false q), rfl⟩ | exact ⟨zb_t rfl (decide_eq_true q), rfl⟩
  · have q : dif m hr = 0 := by rw [← nI_0] at c8; exact (nI_eq (Nat.lt_of_le_of_lt (dif_le m hr) hm) (by decide)).mp c8
    refine Z.iconst (pc := 11) (v := (1)) dX5_isChoice_11 (by decide) ?_
    refine Z.goto (pc := 12) (tgt := 16) dX5_isChoice_12 (by decide) ?_
    refine Z.iret (pc := 16) (ty := .boolean) dX5_isChoice_16 rfl (by first | rfl | exact zb_nar _) ?_
    first | exact ⟨zb_f rfl (decide_eq_false q), rfl⟩ | exact ⟨zb_t rfl (decide_eq_true q), rfl⟩
set_option maxRecDepth 100000 in
set_option maxHeartbeats 400000 in
theorem c_X5_mostOf {h : hp} (m : Nat) (hm : m < 256)  : Cn yX5_mostOf cX5_mostOf 2 (some .int) 0 [.ref 23, .int (nI m)] h (z_eq (some (.int (h.1 24 m))) h) := by
  refine Cn.of (by decide) (Nat.le_of_ble_eq_true rfl) ?_
  refine Z.eqL (lv' := [(0, .ref 23), (1, .int (nI m))]) rfl ?_
  refine Z.iload_n (pc := 0) (i := 1) dX5_mostOf_0 rfl rfl ?_
  refine Z.if_lt_f (pc := 1) (tgt := 13) dX5_mostOf_1 (by decide) (nI_pos (by omega)) ?_
  refine Z.iload_n (pc := 4) (i := 1) dX5_mostOf_4 rfl rfl ?_
  refine Z.aload_n (pc := 5) (i := 0) dX5_mostOf_5 rfl rfl ?_
  refine Z.getR (pc := 6) dX5_mostOf_6 zf_X5_9 rfl rfl ?_
  refine Z.alen (pc := 9) dX5_mostOf_9 rfl (by decide) ?_
  refine Z.icmp_lt_t (pc := 10) (tgt := 17) dX5_mostOf_10 (by decide) (nI_lt (b := 256) (by omega) (by decide)) ?_
  refine Z.aload_n (pc := 17) (i := 0) dX5_mostOf_17 rfl rfl ?_
  refine Z.getR (pc := 18) dX5_mostOf_18 zf_X5_9 rfl rfl ?_
  refine Z.iload_n (pc := 21) (i := 1) dX5_mostOf_21 rfl rfl ?_
  refine Z.iald (pc := 22) dX5_mostOf_22 rfl (by omega) (by decide) ?_
  refine Z.iret (pc := 23) (ty := .int) dX5_mostOf_23 rfl rfl ?_
  exact ⟨rfl, rfl⟩
set_option maxRecDepth 100000 in
set_option maxHeartbeats 400000 in
theorem l_X5_find {h : hp} {n hr : Nat} {k s f : Nat → Int32} (hR : Rm h 3 n hr k s f) : ∀ (r i : Nat) (t : Nat → Int32), i + r = hr + 1 → 1 ≤ i → TB k s f n hr i t → Z yX5_find cX5_find 4 none 3 (KR h k s f n hr) 10 [(0, .ref 23), (1, .ref 3), (2, .int (nI i))] [] (z_row (z_up h 23 1 (nI hr)) 24 t) := by
  have hn8 := hR.2.2.2.1.1
  have hp8 := p8 hn8
  have hlt := hR.2.2.1
  intro r
  induction r with
  | zero =>
    intro i t hi h1 hT
    obtain rfl : hr + 1 = i := by omega
    refine Z.iload_n (pc := 10) (i := 2) dX5_find_10 rfl rfl ?_
    refine Z.aload_n (pc := 11) (i := 0) dX5_find_11 rfl rfl ?_
    refine Z.getIv (pc := 12) dX5_find_12 zf_X5_21 rfl rfl (show _ = nI hr from rfl) ?_
    refine Z.icmp_gt_t (pc := 15) (tgt := 67) dX5_find_15 (by decide) (nI_lt (by omega) (by omega)) ?_
    refine Z.vret (pc := 67) dX5_find_67 rfl ?_
    exact ⟨rfl, t, rfl, hT⟩
  | succ r ih =>
    intro i t hi h1 hT
    refine Z.iload_n (pc := 10) (i := 2) dX5_find_10 rfl rfl ?_
    refine Z.aload_n (pc := 11) (i := 0) dX5_find_11 rfl rfl ?_
    refine Z.getIv (pc := 12) dX5_find_12 zf_X5_21 rfl rfl (show _ = nI hr from rfl) ?_
    refine Z.icmp_gt_f (pc := 15) (tgt := 67) dX5_find_15 (by decide) (nI_nlt (by omega) (by omega)) ?_
    refine Z.iload_n (pc := 18) (i := 2) dX5_find_18 rfl rfl ?_
    refine Z.aload_n (pc := 19) (i := 0) dX5_find_19 rfl rfl ?_
    refine Z.getR (pc := 20) dX5_find_20 zf_X5_9 rfl rfl ?_
    refine Z.alen (pc := 23) dX5_find_23 rfl (by decide) ?_
    refine Z.icmp_ge_f (pc := 24) (tgt := 67) dX5_find_24 (by decide) (nI_ge (b := 256) (by omega) (by decide)) ?_
    refine Z.aload_n (pc := 27) (i := 0) dX5_find_27 rfl rfl ?_
    refine Z.iload_n (pc := 28) (i := 2) dX5_find_28 rfl rfl ?_
    refine Z.callVi (pc := 29) dX5_find_29 (c_X5_isChoice (by exact rfl) i (by omega)) zm_X5_22 zv_X5_isChoice rfl rfl rfl rfl (by decide) (by decide) (Nat.le_of_ble_eq_true rfl) ?_
    refine Z.if_eq_b (pc := 32) (tgt := 61) dX5_find_32 (by decide) (fun c32 => ?_) (fun c32 => ?_)
    · refine Z.iinc (pc := 61) (i := 2) (v := (nI (i + 1))) dX5_find_61 rfl (by exact ii_1 i) (by decide) rfl ?_
      refine Z.goto (pc := 64) (tgt := 10) dX5_find_64 (by decide) ?_
      refine Z.drop 3 ?_
      first
        | exact ih (i + 1) _ (by omega) (by omega) (TB_skip hT c32)
        | exact ih (i + 1) _ (by omega) (by omega) (TB_put hT)
    · have hd : dif i hr = 0 := chB_t c32
      have hi2 : i < 2 ^ n := Nat.lt_of_le_of_lt (ch_le hd) hlt
      have hRc := Rm_out (r := 24) (t := t) (Rm_out (r := 23) (t := upd (h.1 23) 1 (nI hr)) hR (by decide) (by decide) (by decide) (by decide)) (by decide) (by decide) (by decide) (by decide)
      refine Z.aload_n (pc := 35) (i := 1) dX5_find_35 rfl rfl ?_
      refine Z.iload_n (pc := 36) (i := 2) dX5_find_36 rfl rfl ?_
      refine Z.callVi (pc := 37) dX5_find_37 (c_X6_whoCanGo (o := 3) (Or.inl rfl) hRc i hi2) zm_X5_26 zv_X6_whoCanGo rfl rfl rfl rfl (by decide) (by decide) (Nat.le_of_ble_eq_true rfl) ?_
      refine Z.istore_n (pc := 40) (i := 3) dX5_find_40 rfl (by decide) rfl ?_
      refine Z.aload_n (pc := 41) (i := 0) dX5_find_41 rfl rfl ?_
      refine Z.getR (pc := 42) dX5_find_42 zf_X5_9 rfl rfl ?_
      refine Z.iload_n (pc := 45) (i := 2) dX5_find_45 rfl rfl ?_
      refine Z.iload_n (pc := 46) (i := 3) dX5_find_46 rfl rfl ?_
      refine Z.iload_n (pc := 47) (i := 2) dX5_find_47 rfl rfl ?_
      refine Z.icmp_ne (pc := 48) (tgt := 55) dX5_find_48 (by decide) (fun c48 => ?_) (fun c48 => ?_)
      · refine Z.aload_n (pc := 55) (i := 0) dX5_find_55 rfl rfl ?_
        refine Z.iload_n (pc := 56) (i := 3) dX5_find_56 rfl rfl ?_
        refine Z.callVi (pc := 57) dX5_find_57 (c_X5_mostOf _ (Nat.lt_of_le_of_lt wcg_le (by omega))) zm_X5_30 zv_X5_mostOf rfl rfl rfl rfl (by decide) (by decide) (Nat.le_of_ble_eq_true rfl) ?_
        refine Z.top (show _ = nI (mst k s f n hr i) from (hT (wcg k s f n hr i) (by have h1 : wcg k s f n hr i ≤ i := wcg_le; have h2 : ¬ wcg k s f n hr i = i := fun q => c48 (by rw [q]); omega) (wcg_ch hd)).trans (by rw [mst_step (by omega)])) ?_
        refine Z.iast (pc := 60) dX5_find_60 rfl (by omega) (by decide) ?_
        rw [z_up_row, z_row_at, z_row_row]
        refine Z.iinc (pc := 61) (i := 2) (v := (nI (i + 1))) dX5_find_61 rfl (by exact ii_1 i) (by decide) rfl ?_
        refine Z.goto (pc := 64) (tgt := 10) dX5_find_64 (by decide) ?_
        refine Z.drop 3 ?_
        first
          | exact ih (i + 1) _ (by omega) (by omega) (TB_skip hT c32)
          | exact ih (i + 1) _ (by omega) (by omega) (TB_put hT)
      · refine Z.iload_n (pc := 51) (i := 2) dX5_find_51 rfl rfl ?_
        refine Z.top (show nI i = nI (mst k s f n hr i) from by rw [mst_id ((nI_eq (Nat.lt_of_le_of_lt wcg_le (by omega)) (by omega)).mp c48)]) ?_
        refine Z.goto (pc := 52) (tgt := 60) dX5_find_52 (by decide) ?_
        refine Z.iast (pc := 60) dX5_find_60 rfl (by omega) (by decide) ?_
        rw [z_up_row, z_row_at, z_row_row]
        refine Z.iinc (pc := 61) (i := 2) (v := (nI (i + 1))) dX5_find_61 rfl (by exact ii_1 i) (by decide) rfl ?_
        refine Z.goto (pc := 64) (tgt := 10) dX5_find_64 (by decide) ?_
        refine Z.drop 3 ?_
        first
          | exact ih (i + 1) _ (by omega) (by omega) (TB_skip hT c32)
          | exact ih (i + 1) _ (by omega) (by omega) (TB_put hT)
set_option maxRecDepth 100000 in
set_option maxHeartbeats 400000 in
theorem c_X5_find {h : hp} {n hr : Nat} {k s f : Nat → Int32} (hR : Rm h 3 n hr k s f) (h24 : h.1 24 0 = 0)  : Cn yX5_find cX5_find 4 none 3 [.ref 23, .ref 3] h (KR h k s f n hr) := by
  refine Cn.of (by decide) (Nat.le_of_ble_eq_true rfl) ?_
  refine Z.eqL (lv' := [(0, .ref 23), (1, .ref 3)]) rfl ?_
  refine Z.aload_n (pc := 0) (i := 0) dX5_find_0 rfl rfl ?_
  refine Z.aload_n (pc := 1) (i := 1) dX5_find_1 rfl rfl ?_
  refine Z.getIv (pc := 2) dX5_find_2 zf_X5_15 rfl rfl hR.2.1 ?_
  refine Z.putI (pc := 5) dX5_find_5 zp_X5_21 rfl rfl rfl rfl ?_
  refine Z.iconst (pc := 8) (v := (nI 1)) dX5_find_8 (by decide) ?_
  refine Z.istore_n (pc := 9) (i := 2) dX5_find_9 rfl (by decide) rfl ?_
  have e := l_X5_find hR hr 1 (h.1 24) (by omega) (by omega) (TB_1 h24)
  have e2 : z_row (z_up h 23 1 (nI hr)) 24 (h.1 24) = z_up h 23 1 (nI hr) := by
    rw [show h.1 24 = (z_up h 23 1 (nI hr)).1 24 from rfl, z_row_id]
  rw [e2] at e
  exact e
set_option maxRecDepth 100000 in
set_option maxHeartbeats 400000 in
theorem l_X5_fewest {h : hp} {n hr : Nat} {k s f : Nat → Int32} (hh : h.1 23 1 = nI hr) (hr8 : hr < 256) (hT : TB k s f n hr (hr + 1) (h.1 24)) : ∀ (r i : Nat) , i + r = hr → Z yX5_fewest cX5_fewest 3 (some .int) 1 (z_eq (some (.int (nI (lsF (riB k s f n hr) hr)))) h) 4 [(0, .ref 23), (1, .int (nI (lsF (riB k s f n hr) i))), (2, .int (nI (i + 1)))] [] h := by
  intro r
  induction r with
  | zero =>
    intro i hi
    obtain rfl : hr = i := by omega
    refine Z.iload_n (pc := 4) (i := 2) dX5_fewest_4 rfl rfl ?_
    refine Z.aload_n (pc := 5) (i := 0) dX5_fewest_5 rfl rfl ?_
    refine Z.getIv (pc := 6) dX5_fewest_6 zf_X5_21 rfl rfl hh ?_
    refine Z.icmp_gt_t (pc := 9) (tgt := 62) dX5_fewest_9 (by decide) (nI_lt (by omega) (by omega)) ?_
    refine Z.iload_n (pc := 62) (i := 1) dX5_fewest_62 rfl rfl ?_
    refine Z.iret (pc := 63) (ty := .int) dX5_fewest_63 rfl rfl ?_
    exact ⟨rfl, rfl⟩
  | succ r ih =>
    intro i hi
    refine Z.iload_n (pc := 4) (i := 2) dX5_fewest_4 rfl rfl ?_
    refine Z.aload_n (pc := 5) (i := 0) dX5_fewest_5 rfl rfl ?_
    refine Z.getIv (pc := 6) dX5_fewest_6 zf_X5_21 rfl rfl hh ?_
    refine Z.icmp_gt_f (pc := 9) (tgt := 62) dX5_fewest_9 (by decide) (nI_nlt (by omega) (by omega)) ?_
    refine Z.iload_n (pc := 12) (i := 2) dX5_fewest_12 rfl rfl ?_
    refine Z.aload_n (pc := 13) (i := 0) dX5_fewest_13 rfl rfl ?_
    refine Z.getR (pc := 14) dX5_fewest_14 zf_X5_9 rfl rfl ?_
    refine Z.alen (pc := 17) dX5_fewest_17 rfl (by decide) ?_
    refine Z.icmp_ge_f (pc := 18) (tgt := 62) dX5_fewest_18 (by decide) (nI_ge (b := 256) (by omega) (by decide)) ?_
    refine Z.aload_n (pc := 21) (i := 0) dX5_fewest_21 rfl rfl ?_
    refine Z.iload_n (pc := 22) (i := 2) dX5_fewest_22 rfl rfl ?_
    refine Z.callVi (pc := 23) dX5_fewest_23 (c_X5_isChoice hh _ (by omega)) zm_X5_22 zv_X5_isChoice rfl rfl rfl rfl (by decide) (by decide) (Nat.le_of_ble_eq_true rfl) ?_
    refine Z.if_eq_b (pc := 26) (tgt := 56) dX5_fewest_26 (by decide) (fun c26 => ?_) (fun c26 => ?_)
    · have eS : lsF (riB k s f n hr) (i + 1) = lsF (riB k s f n hr) i := lsF_k (by simp [riB, c26])
      rw [← eS]
      refine Z.iinc (pc := 56) (i := 2) (v := (nI (i + 1 + 1))) dX5_fewest_56 rfl (by exact ii_1 (i + 1)) (by decide) rfl ?_
      refine Z.goto (pc := 59) (tgt := 4) dX5_fewest_59 (by decide) ?_
      exact ih (i + 1) (by omega)
    · have hd : dif (i + 1) hr = 0 := chB_t c26
      refine Z.aload_n (pc := 29) (i := 0) dX5_fewest_29 rfl rfl ?_
      refine Z.getR (pc := 30) dX5_fewest_30 zf_X5_9 rfl rfl ?_
      refine Z.iload_n (pc := 33) (i := 2) dX5_fewest_33 rfl rfl ?_
      refine Z.iald (pc := 34) dX5_fewest_34 rfl (by omega) (by decide) ?_
      refine Z.top (hT (i + 1) (by omega) hd) ?_
      refine Z.iload_n (pc := 35) (i := 2) dX5_fewest_35 rfl rfl ?_
      refine Z.icmp_ne (pc := 36) (tgt := 56) dX5_fewest_36 (by decide) (fun c36 => ?_) (fun c36 => ?_)
      · have q1 : ¬ wcg k s f n hr (i + 1) = i + 1 := fun q => c36 (by rw [mst_id q])
        have eS : lsF (riB k s f n hr) (i + 1) = lsF (riB k s f n hr) i := lsF_k (by simp [riB, q1])
        rw [← eS]
        refine Z.iinc (pc := 56) (i := 2) (v := (nI (i + 1 + 1))) dX5_fewest_56 rfl (by exact ii_1 (i + 1)) (by decide) rfl ?_
        refine Z.goto (pc := 59) (tgt := 4) dX5_fewest_59 (by decide) ?_
        exact ih (i + 1) (by omega)
      · have q1 : wcg k s f n hr (i + 1) = i + 1 := (mst_iff (by omega)).mp ((nI_eq (Nat.lt_of_le_of_lt mst_le (by omega)) (by omega)).mp c36)
        refine Z.iload_n (pc := 39) (i := 1) dX5_fewest_39 rfl rfl ?_
        refine Z.if_eq (pc := 40) (tgt := 54) dX5_fewest_40 (by decide) (fun c40 => ?_) (fun c40 => ?_)
        · have q2 : lsF (riB k s f n hr) i = 0 := by rw [← nI_0] at c40; exact (nI_eq (Nat.lt_of_le_of_lt (lsF_le _ i) (by omega)) (by decide)).mp c40
          have eS : i + 1 = lsF (riB k s f n hr) (i + 1) := lsF_s (by simp [riB, c26, q1, q2])
          refine Z.iload_n (pc := 54) (i := 2) dX5_fewest_54 rfl rfl ?_
          refine Z.top (congrArg nI eS) ?_
          refine Z.istore_n (pc := 55) (i := 1) dX5_fewest_55 rfl (by decide) rfl ?_
          refine Z.iinc (pc := 56) (i := 2) (v := (nI (i + 1 + 1))) dX5_fewest_56 rfl (by exact ii_1 (i + 1)) (by decide) rfl ?_
          refine Z.goto (pc := 59) (tgt := 4) dX5_fewest_59 (by decide) ?_
          exact ih (i + 1) (by omega)
        · have q2 : ¬ lsF (riB k s f n hr) i = 0 := fun q => c40 (by rw [q]; rfl)
          refine Z.iload_n (pc := 43) (i := 2) dX5_fewest_43 rfl rfl ?_
          refine Z.callSi (pc := 44) dX5_fewest_44 (c_J6_bitCount_0f7a4 _ (by omega)) zm_X5_33 zs_J6_bitCount_0f7a4 rfl rfl (by decide) (by decide) (Nat.le_of_ble_eq_true rfl) ?_
          refine Z.iload_n (pc := 47) (i := 1) dX5_fewest_47 rfl rfl ?_
          refine Z.callSi (pc := 48) dX5_fewest_48 (c_J6_bitCount_0f7a4 _ (Nat.lt_of_le_of_lt (lsF_le _ i) (by omega))) zm_X5_33 zs_J6_bitCount_0f7a4 rfl rfl (by decide) (by decide) (Nat.le_of_ble_eq_true rfl) ?_
          refine Z.icmp_ge (pc := 51) (tgt := 56) dX5_fewest_51 (by decide) (fun c51 => ?_) (fun c51 => ?_)
          · have q3 : ¬ pop (i + 1) < pop (lsF (riB k s f n hr) i) := fun q => nI_ge q (Nat.lt_of_le_of_lt (pop_le _) (by decide)) c51
            have eS : lsF (riB k s f n hr) (i + 1) = lsF (riB k s f n hr) i := lsF_k (by simp [q2, q3])
            rw [← eS]
            refine Z.iinc (pc := 56) (i := 2) (v := (nI (i + 1 + 1))) dX5_fewest_56 rfl (by exact ii_1 (i + 1)) (by decide) rfl ?_
            refine Z.goto (pc := 59) (tgt := 4) dX5_fewest_59 (by decide) ?_
            exact ih (i + 1) (by omega)
          · have q3 : pop (i + 1) < pop (lsF (riB k s f n hr) i) := Nat.not_le.mp (fun q => c51 (nI_le q (Nat.lt_of_le_of_lt (pop_le _) (by decide))))
            have eS : i + 1 = lsF (riB k s f n hr) (i + 1) := lsF_s (by simp [riB, c26, q1, q3])
            refine Z.iload_n (pc := 54) (i := 2) dX5_fewest_54 rfl rfl ?_
            refine Z.top (congrArg nI eS) ?_
            refine Z.istore_n (pc := 55) (i := 1) dX5_fewest_55 rfl (by decide) rfl ?_
            refine Z.iinc (pc := 56) (i := 2) (v := (nI (i + 1 + 1))) dX5_fewest_56 rfl (by exact ii_1 (i + 1)) (by decide) rfl ?_
            refine Z.goto (pc := 59) (tgt := 4) dX5_fewest_59 (by decide) ?_
            exact ih (i + 1) (by omega)
set_option maxRecDepth 100000 in
set_option maxHeartbeats 400000 in
theorem c_X5_fewest {h : hp} {n hr : Nat} {k s f : Nat → Int32} (hh : h.1 23 1 = nI hr) (hr8 : hr < 256) (hT : TB k s f n hr (hr + 1) (h.1 24))  : Cn yX5_fewest cX5_fewest 3 (some .int) 1 [.ref 23] h (z_eq (some (.int (nI (lsF (riB k s f n hr) hr)))) h) := by
  refine Cn.of (by decide) (Nat.le_of_ble_eq_true rfl) ?_
  refine Z.eqL (lv' := [(0, .ref 23)]) rfl ?_
  refine Z.iconst (pc := 0) (v := (nI 0)) dX5_fewest_0 (by decide) ?_
  refine Z.istore_n (pc := 1) (i := 1) dX5_fewest_1 rfl (by decide) rfl ?_
  refine Z.iconst (pc := 2) (v := (nI 1)) dX5_fewest_2 (by decide) ?_
  refine Z.istore_n (pc := 3) (i := 2) dX5_fewest_3 rfl (by decide) rfl ?_
  exact l_X5_fewest hh hr8 hT hr 0 (by omega)
set_option maxRecDepth 100000 in
set_option maxHeartbeats 400000 in
theorem l_X0_power {h : hp} (b : Int32) (e : Nat) (he : e < 2 ^ 31) : ∀ (r i : Nat) , i + r = e → Z yX0_power cX0_power 4 (some .int) 0 (z_eq (some (.int (pwI b e))) h) 4 [(0, .int b), (1, .int (nI e)), (2, .int (pwI b i)), (3, .int (nI i))] [] h := by
  intro r
  induction r with
  | zero =>
    intro i hi
    obtain rfl : e = i := by omega
    refine Z.iload_n (pc := 4) (i := 3) dX0_power_4 rfl rfl ?_
    refine Z.iload_n (pc := 5) (i := 1) dX0_power_5 rfl rfl ?_
    refine Z.icmp_ge_t (pc := 6) (tgt := 19) dX0_power_6 (by decide) (nI_le (Nat.le_refl _) he) ?_
    refine Z.iload_n (pc := 19) (i := 2) dX0_power_19 rfl rfl ?_
    refine Z.iret (pc := 20) (ty := .int) dX0_power_20 rfl rfl ?_
    exact ⟨rfl, rfl⟩
  | succ r ih =>
    intro i hi
    refine Z.iload_n (pc := 4) (i := 3) dX0_power_4 rfl rfl ?_
    refine Z.iload_n (pc := 5) (i := 1) dX0_power_5 rfl rfl ?_
    refine Z.icmp_ge_f (pc := 6) (tgt := 19) dX0_power_6 (by decide) (nI_ge (by omega) he) ?_
    refine Z.iload_n (pc := 9) (i := 2) dX0_power_9 rfl rfl ?_
    refine Z.iload_n (pc := 10) (i := 0) dX0_power_10 rfl rfl ?_
    refine Z.imul (pc := 11) dX0_power_11 ?_
    refine Z.istore_n (pc := 12) (i := 2) dX0_power_12 rfl (by decide) rfl ?_
    refine Z.iinc (pc := 13) (i := 3) (v := (nI (i + 1))) dX0_power_13 rfl (by exact ii_1 i) (by decide) rfl ?_
    refine Z.goto (pc := 16) (tgt := 4) dX0_power_16 (by decide) ?_
    exact ih (i + 1) (by omega)
set_option maxRecDepth 100000 in
set_option maxHeartbeats 400000 in
theorem c_X0_power {h : hp} (b : Int32) (e : Nat) (he : e < 2 ^ 31)  : Cn yX0_power cX0_power 4 (some .int) 0 [.int b, .int (nI e)] h (z_eq (some (.int (pwI b e))) h) := by
  refine Cn.of (by decide) (Nat.le_of_ble_eq_true rfl) ?_
  refine Z.eqL (lv' := [(0, .int b), (1, .int (nI e))]) rfl ?_
  refine Z.iconst (pc := 0) (v := (1)) dX0_power_0 (by decide) ?_
  refine Z.istore_n (pc := 1) (i := 2) dX0_power_1 rfl (by decide) rfl ?_
  refine Z.iconst (pc := 2) (v := (nI 0)) dX0_power_2 (by decide) ?_
  refine Z.istore_n (pc := 3) (i := 3) dX0_power_3 rfl (by decide) rfl ?_
  exact l_X0_power b e he e 0 (by omega)
set_option maxRecDepth 100000 in
set_option maxHeartbeats 400000 in
theorem l_X0_weigh {h : hp} (ot tn : Nat) (ho : ot ≤ 7) (ht : tn ≤ 10) : ∀ (r i : Nat) , i + r = ot + 1 → Z yX0_weigh cX0_weigh 4 none 1 (z_eq none (z_row h 26 (rdR (wtR ot tn) (h.1 26) (ot + 1)))) 2 [(0, .ref 25), (1, .int (nI ot)), (2, .int (nI tn)), (3, .int (nI i))] [] (z_row h 26 (rdR (wtR ot tn) (h.1 26) i)) := by
  intro r
  induction r with
  | zero =>
    intro i hi
    obtain rfl : ot + 1 = i := by omega
    refine Z.iload_n (pc := 2) (i := 3) dX0_weigh_2 rfl rfl ?_
    refine Z.iload_n (pc := 3) (i := 1) dX0_weigh_3 rfl rfl ?_
    refine Z.icmp_gt_t (pc := 4) (tgt := 41) dX0_weigh_4 (by decide) (nI_lt (by omega) (by omega)) ?_
    refine Z.vret (pc := 41) dX0_weigh_41 rfl ?_
    exact ⟨rfl, rfl⟩
  | succ r ih =>
    intro i hi
    refine Z.iload_n (pc := 2) (i := 3) dX0_weigh_2 rfl rfl ?_
    refine Z.iload_n (pc := 3) (i := 1) dX0_weigh_3 rfl rfl ?_
    refine Z.icmp_gt_f (pc := 4) (tgt := 41) dX0_weigh_4 (by decide) (nI_nlt (by omega) (by omega)) ?_
    refine Z.iload_n (pc := 7) (i := 3) dX0_weigh_7 rfl rfl ?_
    refine Z.bipush (pc := 8) (v := (nI 8)) dX0_weigh_8 (by decide) ?_
    refine Z.icmp_ge_f (pc := 10) (tgt := 41) dX0_weigh_10 (by decide) (nI_ge (by omega) (by decide)) ?_
    refine Z.aload_n (pc := 13) (i := 0) dX0_weigh_13 rfl rfl ?_
    refine Z.getR (pc := 14) dX0_weigh_14 zf_X0_9 rfl rfl ?_
    refine Z.iload_n (pc := 17) (i := 3) dX0_weigh_17 rfl rfl ?_
    refine Z.bipush (pc := 18) (v := (nI 10)) dX0_weigh_18 (by decide) ?_
    refine Z.iload_n (pc := 20) (i := 2) dX0_weigh_20 rfl rfl ?_
    refine Z.isub (pc := 21) dX0_weigh_21 ?_
    refine Z.top (pk_sub ht) ?_
    refine Z.iload_n (pc := 22) (i := 3) dX0_weigh_22 rfl rfl ?_
    refine Z.callSi (pc := 23) dX0_weigh_23 (c_X0_power _ i (by omega)) zm_X0_48 zs_X0_power rfl rfl (by decide) (by decide) (Nat.le_of_ble_eq_true rfl) ?_
    refine Z.top (pwI_nI _ i) ?_
    refine Z.iload_n (pc := 26) (i := 2) dX0_weigh_26 rfl rfl ?_
    refine Z.iload_n (pc := 27) (i := 1) dX0_weigh_27 rfl rfl ?_
    refine Z.iload_n (pc := 28) (i := 3) dX0_weigh_28 rfl rfl ?_
    refine Z.isub (pc := 29) dX0_weigh_29 ?_
    refine Z.top (pk_sub (by omega)) ?_
    refine Z.callSi (pc := 30) dX0_weigh_30 (c_X0_power _ _ (by omega)) zm_X0_48 zs_X0_power rfl rfl (by decide) (by decide) (Nat.le_of_ble_eq_true rfl) ?_
    refine Z.top (pwI_nI _ _) ?_
    refine Z.imul (pc := 33) dX0_weigh_33 ?_
    refine Z.top ((pk_mul _ _).trans (show _ = wtR ot tn i from rfl)) ?_
    refine Z.iast (pc := 34) dX0_weigh_34 rfl (by omega) (by decide) ?_
    rw [z_up_row, z_row_at, z_row_row, rdR_s (wtR ot tn) (h.1 26) i]
    refine Z.iinc (pc := 35) (i := 3) (v := (nI (i + 1))) dX0_weigh_35 rfl (by exact ii_1 i) (by decide) rfl ?_
    refine Z.goto (pc := 38) (tgt := 2) dX0_weigh_38 (by decide) ?_
    exact ih (i + 1) (by omega)
set_option maxRecDepth 100000 in
set_option maxHeartbeats 400000 in
theorem c_X0_weigh {h : hp} (ot tn : Nat) (ho : ot ≤ 7) (ht : tn ≤ 10)  : Cn yX0_weigh cX0_weigh 4 none 1 [.ref 25, .int (nI ot), .int (nI tn)] h (z_eq none (z_row h 26 (rdR (wtR ot tn) (h.1 26) (ot + 1)))) := by
  refine Cn.of (by decide) (Nat.le_of_ble_eq_true rfl) ?_
  refine Z.eqL (lv' := [(0, .ref 25), (1, .int (nI ot)), (2, .int (nI tn))]) rfl ?_
  refine Z.iconst (pc := 0) (v := (nI 0)) dX0_weigh_0 (by decide) ?_
  refine Z.istore_n (pc := 1) (i := 3) dX0_weigh_1 rfl (by decide) rfl ?_
  have e := l_X0_weigh (h := h) ot tn ho ht (ot + 1) 0 (by omega)
  rw [rdR_0, z_row_id] at e
  exact e
set_option maxRecDepth 100000 in
set_option maxHeartbeats 400000 in
theorem c_X0_weightOf {h : hp} (m : Nat) (hm : m < 1024) (h1 : 1 ≤ pop m) (h8 : pop m ≤ 8)  : Cn yX0_weightOf cX0_weightOf 3 (some .int) 1 [.ref 25, .int (nI m)] h (z_eq (some (.int (h.1 26 (pop m - 1)))) h) := by
  refine Cn.of (by decide) (Nat.le_of_ble_eq_true rfl) ?_
  refine Z.eqL (lv' := [(0, .ref 25), (1, .int (nI m))]) rfl ?_
  refine Z.iload_n (pc := 0) (i := 1) dX0_weightOf_0 rfl rfl ?_
  refine Z.callSi (pc := 1) dX0_weightOf_1 (c_J6_bitCount_0f7a4 m hm) zm_X0_21 zs_J6_bitCount_0f7a4 rfl rfl (by decide) (by decide) (Nat.le_of_ble_eq_true rfl) ?_
  refine Z.iconst (pc := 4) (v := (nI 1)) dX0_weightOf_4 (by decide) ?_
  refine Z.isub (pc := 5) dX0_weightOf_5 ?_
  refine Z.top (pk_sub h1) ?_
  refine Z.istore_n (pc := 6) (i := 2) dX0_weightOf_6 rfl (by decide) rfl ?_
  refine Z.iload_n (pc := 7) (i := 2) dX0_weightOf_7 rfl rfl ?_
  refine Z.if_lt_f (pc := 8) (tgt := 17) dX0_weightOf_8 (by decide) (nI_pos (by omega)) ?_
  refine Z.iload_n (pc := 11) (i := 2) dX0_weightOf_11 rfl rfl ?_
  refine Z.bipush (pc := 12) (v := (nI 8)) dX0_weightOf_12 (by decide) ?_
  refine Z.icmp_lt_t (pc := 14) (tgt := 21) dX0_weightOf_14 (by decide) (nI_lt (by omega) (by decide)) ?_
  refine Z.aload_n (pc := 21) (i := 0) dX0_weightOf_21 rfl rfl ?_
  refine Z.getR (pc := 22) dX0_weightOf_22 zf_X0_9 rfl rfl ?_
  refine Z.iload_n (pc := 25) (i := 2) dX0_weightOf_25 rfl rfl ?_
  refine Z.iald (pc := 26) dX0_weightOf_26 rfl (by omega) (by decide) ?_
  refine Z.iret (pc := 27) (ty := .int) dX0_weightOf_27 rfl rfl ?_
  exact ⟨rfl, rfl⟩
set_option maxRecDepth 100000 in
set_option maxHeartbeats 400000 in
theorem l_X0_commonDivisor {h : hp} (G : Nat) (u v : Int32) : ∀ (r i : Nat) (a b : Nat), i + r = 64 → a < 2 ^ 31 → b < 2 ^ 31 → euQ r a b → Nat.gcd a b = G → Z yX0_commonDivisor cX0_commonDivisor 6 (some .int) 0 (z_eq (some (.int (nI G))) h) 7 [(0, .int u), (1, .int v), (2, .int (nI a)), (3, .int (nI b)), (4, .int (nI i))] [] h := by
  intro r
  induction r with
  | zero =>
    intro i a b hi ha hb hQ hG
    obtain rfl : 64 = i := by omega
    refine Z.iload (pc := 7) (i := 4) dX0_commonDivisor_7 rfl ?_
    refine Z.bipush (pc := 9) (v := (nI 64)) dX0_commonDivisor_9 (by decide) ?_
    refine Z.icmp_ge_t (pc := 11) (tgt := 34) dX0_commonDivisor_11 (by decide) (nI_le (Nat.le_refl 64) (by decide)) ?_
    refine Z.iload_n (pc := 34) (i := 2) dX0_commonDivisor_34 rfl rfl ?_
    refine Z.iret (pc := 35) (ty := .int) dX0_commonDivisor_35 rfl rfl ?_
    exact ⟨by rw [← hG, euQ_0 hQ, Nat.gcd_zero_right], rfl⟩
  | succ r ih =>
    intro i a b hi ha hb hQ hG
    refine Z.iload (pc := 7) (i := 4) dX0_commonDivisor_7 rfl ?_
    refine Z.bipush (pc := 9) (v := (nI 64)) dX0_commonDivisor_9 (by decide) ?_
    refine Z.icmp_ge_f (pc := 11) (tgt := 34) dX0_commonDivisor_11 (by decide) (nI_ge (by omega) (by decide)) ?_
    refine Z.iload_n (pc := 14) (i := 3) dX0_commonDivisor_14 rfl rfl ?_
    refine Z.if_eq (pc := 15) (tgt := 34) dX0_commonDivisor_15 (by decide) (fun c15 => ?_) (fun c15 => ?_)
    · have b0 : b = 0 := by rw [← nI_0] at c15; exact (nI_eq (by omega) (by decide)).mp c15
      refine Z.iload_n (pc := 34) (i := 2) dX0_commonDivisor_34 rfl rfl ?_
      refine Z.iret (pc := 35) (ty := .int) dX0_commonDivisor_35 rfl rfl ?_
      exact ⟨by rw [← hG, b0, Nat.gcd_zero_right], rfl⟩
    · have b0 : 0 < b := Nat.pos_of_ne_zero (fun q => c15 (by rw [q]; rfl))
      refine Z.iload_n (pc := 18) (i := 2) dX0_commonDivisor_18 rfl rfl ?_
      refine Z.iload_n (pc := 19) (i := 3) dX0_commonDivisor_19 rfl rfl ?_
      refine Z.irem (pc := 20) dX0_commonDivisor_20 c15 ?_
      refine Z.top (pk_rem ha b0 hb) ?_
      refine Z.istore (pc := 21) (i := 5) dX0_commonDivisor_21 (by decide) rfl ?_
      refine Z.iload_n (pc := 23) (i := 3) dX0_commonDivisor_23 rfl rfl ?_
      refine Z.istore_n (pc := 24) (i := 2) dX0_commonDivisor_24 rfl (by decide) rfl ?_
      refine Z.iload (pc := 25) (i := 5) dX0_commonDivisor_25 rfl ?_
      refine Z.istore_n (pc := 27) (i := 3) dX0_commonDivisor_27 rfl (by decide) rfl ?_
      refine Z.iinc (pc := 28) (i := 4) (v := (nI (i + 1))) dX0_commonDivisor_28 rfl (by exact ii_1 i) (by decide) rfl ?_
      refine Z.goto (pc := 31) (tgt := 7) dX0_commonDivisor_31 (by decide) ?_
      refine Z.drop 5 ?_
      exact ih (i + 1) b (a % b) (by omega) hb (Nat.lt_trans (Nat.mod_lt a b0) hb) (euQ_s b0 hQ) ((gcd_s a b).trans hG)
set_option maxRecDepth 100000 in
set_option maxHeartbeats 400000 in
theorem c_X0_commonDivisor {h : hp} (a b : Nat) (ha : a < 2 ^ 31) (hb : b < 2 ^ 31)  : Cn yX0_commonDivisor cX0_commonDivisor 6 (some .int) 0 [.int (nI a), .int (nI b)] h (z_eq (some (.int (nI (Nat.gcd a b)))) h) := by
  refine Cn.of (by decide) (Nat.le_of_ble_eq_true rfl) ?_
  refine Z.eqL (lv' := [(0, .int (nI a)), (1, .int (nI b))]) rfl ?_
  refine Z.iload_n (pc := 0) (i := 0) dX0_commonDivisor_0 rfl rfl ?_
  refine Z.istore_n (pc := 1) (i := 2) dX0_commonDivisor_1 rfl (by decide) rfl ?_
  refine Z.iload_n (pc := 2) (i := 1) dX0_commonDivisor_2 rfl rfl ?_
  refine Z.istore_n (pc := 3) (i := 3) dX0_commonDivisor_3 rfl (by decide) rfl ?_
  refine Z.iconst (pc := 4) (v := (nI 0)) dX0_commonDivisor_4 (by decide) ?_
  refine Z.istore (pc := 5) (i := 4) dX0_commonDivisor_5 (by decide) rfl ?_
  exact l_X0_commonDivisor (Nat.gcd a b) _ _ 64 0 a b rfl ha hb (euQ_64 ha hb) rfl
set_option maxRecDepth 100000 in
set_option maxHeartbeats 400000 in
theorem c_X0_reduce {h : hp} (A B : Nat) (hA : h.1 25 1 = nI A) (hB : h.1 25 2 = nI B) (ha : A < 2 ^ 31) (hb : B < 2 ^ 31) (hb0 : 0 < B)  : Cn yX0_reduce cX0_reduce 2 none 1 [.ref 25] h (z_eq none (z_up (z_up h 25 1 (nI (A / (Nat.gcd A B)))) 25 2 (nI (B / (Nat.gcd A B))))) := by
  have hg : 0 < Nat.gcd A B := Nat.gcd_pos_of_pos_right A hb0
  have hg2 : Nat.gcd A B ≤ B := Nat.gcd_le_right A hb0
  refine Cn.of (by decide) (Nat.le_of_ble_eq_true rfl) ?_
  refine Z.eqL (lv' := [(0, .ref 25)]) rfl ?_
  refine Z.aload_n (pc := 0) (i := 0) dX0_reduce_0 rfl rfl ?_
  refine Z.getIv (pc := 1) dX0_reduce_1 zf_X0_31 rfl rfl hA ?_
  refine Z.aload_n (pc := 4) (i := 0) dX0_reduce_4 rfl rfl ?_
  refine Z.getIv (pc := 5) dX0_reduce_5 zf_X0_52 rfl rfl hB ?_
  refine Z.callSi (pc := 8) dX0_reduce_8 (c_X0_commonDivisor A B ha hb) zm_X0_58 zs_X0_commonDivisor rfl rfl (by decide) (by decide) (Nat.le_of_ble_eq_true rfl) ?_
  refine Z.istore_n (pc := 11) (i := 1) dX0_reduce_11 rfl (by decide) rfl ?_
  refine Z.iload_n (pc := 12) (i := 1) dX0_reduce_12 rfl rfl ?_
  refine Z.iconst (pc := 13) (v := (nI 1)) dX0_reduce_13 (by decide) ?_
  refine Z.icmp_le (pc := 14) (tgt := 37) dX0_reduce_14 (by decide) (fun c14 => ?_) (fun c14 => ?_)
  · have g1 : Nat.gcd A B = 1 := by have : ¬ 1 < Nat.gcd A B := fun q => nI_nle2 q (by omega) c14; omega
    refine Z.vret (pc := 37) dX0_reduce_37 rfl ?_
    first | exact ⟨rfl, rfl⟩ | (refine ⟨rfl, ?_⟩; rw [g1, Nat.div_one, Nat.div_one, z_up_id hA, z_up_id hB])
  · refine Z.aload_n (pc := 17) (i := 0) dX0_reduce_17 rfl rfl ?_
    refine Z.dup (pc := 18) dX0_reduce_18 rfl ?_
    refine Z.getIv (pc := 19) dX0_reduce_19 zf_X0_31 rfl rfl hA ?_
    refine Z.iload_n (pc := 22) (i := 1) dX0_reduce_22 rfl rfl ?_
    refine Z.idiv (pc := 23) dX0_reduce_23 (nI_ne0 hg (by omega)) ?_
    refine Z.top (pk_div ha hg (by omega)) ?_
    refine Z.putI (pc := 24) dX0_reduce_24 zp_X0_31 rfl rfl rfl rfl ?_
    refine Z.aload_n (pc := 27) (i := 0) dX0_reduce_27 rfl rfl ?_
    refine Z.dup (pc := 28) dX0_reduce_28 rfl ?_
    refine Z.getIv (pc := 29) dX0_reduce_29 zf_X0_52 rfl rfl (show _ = nI B from hB) ?_
    refine Z.iload_n (pc := 32) (i := 1) dX0_reduce_32 rfl rfl ?_
    refine Z.idiv (pc := 33) dX0_reduce_33 (nI_ne0 hg (by omega)) ?_
    refine Z.top (pk_div hb hg (by omega)) ?_
    refine Z.putI (pc := 34) dX0_reduce_34 zp_X0_52 rfl rfl rfl rfl ?_
    refine Z.vret (pc := 37) dX0_reduce_37 rfl ?_
    first | exact ⟨rfl, rfl⟩ | (refine ⟨rfl, ?_⟩; rw [g1, Nat.div_one, Nat.div_one, z_up_id hA, z_up_id hB])
set_option maxRecDepth 100000 in
set_option maxHeartbeats 400000 in
theorem l_X0_find {h : hp} {n hr : Nat} {k s f : Nat → Int32} (hh : h.1 23 1 = nI hr) (hr8 : hr < 256) (hT : TB k s f n hr (hr + 1) (h.1 24)) (g tn : Nat) (hg : g < 8) (ht : tn ≤ 10) (hpop : 1 ≤ pop hr) : ∀ (r i : Nat) , i + r = hr + 1 → 1 ≤ i → Z yX0_find cX0_find 6 none 2 (z_eq none (chX h (pop hr - 1) tn (abN k s f n hr g tn (hr + 1)))) 26 [(0, .ref 25), (1, .ref 23), (2, .int (nI g)), (3, .int (nI tn)), (4, .int (nI (pop hr - 1))), (5, .int (nI i))] [] (z_up (z_row h 26 (rdR (wtR (pop hr - 1) tn) (h.1 26) ((pop hr - 1) + 1))) 25 1 (nI (abN k s f n hr g tn i))) := by
  have hp8 := pop8 hr8
  intro r
  induction r with
  | zero =>
    intro i hi h1
    obtain rfl : hr + 1 = i := by omega
    refine Z.iload (pc := 26) (i := 5) dX0_find_26 rfl ?_
    refine Z.aload_n (pc := 28) (i := 1) dX0_find_28 rfl rfl ?_
    refine Z.getIv (pc := 29) dX0_find_29 zf_X0_15 rfl rfl (show _ = nI hr from hh) ?_
    refine Z.icmp_gt_t (pc := 32) (tgt := 89) dX0_find_32 (by decide) (nI_lt (by omega) (by omega)) ?_
    refine Z.aload_n (pc := 89) (i := 0) dX0_find_89 rfl rfl ?_
    refine Z.bipush (pc := 90) (v := (10)) dX0_find_90 (by decide) ?_
    refine Z.iload (pc := 92) (i := 4) dX0_find_92 rfl ?_
    refine Z.callSi (pc := 94) dX0_find_94 (c_X0_power 10 _ (by omega)) zm_X0_48 zs_X0_power rfl rfl (by decide) (by decide) (Nat.le_of_ble_eq_true rfl) ?_
    refine Z.top (pwI_nI 10 _) ?_
    refine Z.putI (pc := 97) dX0_find_97 zp_X0_52 rfl rfl rfl rfl ?_
    refine Z.aload_n (pc := 100) (i := 0) dX0_find_100 rfl rfl ?_
    refine Z.callVv (pc := 101) dX0_find_101 (c_X0_reduce (abN k s f n hr g tn (hr + 1)) (10 ^ (pop hr - 1)) (by exact rfl) (by exact rfl) (Nat.lt_of_le_of_lt (abN_le hr8 hg ht (by omega)) (by decide)) (Nat.lt_of_le_of_lt (Nat.pow_le_pow_right (n := 10) (j := 7) (by decide) (by omega)) (by decide)) (Nat.pow_pos (by decide))) zm_X0_55 zv_X0_reduce rfl rfl rfl rfl (by decide) (by decide) (Nat.le_of_ble_eq_true rfl) ?_
    refine Z.vret (pc := 104) dX0_find_104 rfl ?_
    exact ⟨rfl, z_up4 _ 25 1 2 (by decide) _ _ _ _⟩
  | succ r ih =>
    intro i hi h1
    refine Z.iload (pc := 26) (i := 5) dX0_find_26 rfl ?_
    refine Z.aload_n (pc := 28) (i := 1) dX0_find_28 rfl rfl ?_
    refine Z.getIv (pc := 29) dX0_find_29 zf_X0_15 rfl rfl (show _ = nI hr from hh) ?_
    refine Z.icmp_gt_f (pc := 32) (tgt := 89) dX0_find_32 (by decide) (nI_nlt (by omega) (by omega)) ?_
    refine Z.iload (pc := 35) (i := 5) dX0_find_35 rfl ?_
    refine Z.aload_n (pc := 37) (i := 1) dX0_find_37 rfl rfl ?_
    refine Z.getR (pc := 38) dX0_find_38 zf_X0_34 rfl rfl ?_
    refine Z.alen (pc := 41) dX0_find_41 rfl (by decide) ?_
    refine Z.icmp_ge_f (pc := 42) (tgt := 89) dX0_find_42 (by decide) (nI_ge (b := 256) (by omega) (by decide)) ?_
    refine Z.aload_n (pc := 45) (i := 1) dX0_find_45 rfl rfl ?_
    refine Z.iload (pc := 46) (i := 5) dX0_find_46 rfl ?_
    refine Z.callVi (pc := 48) dX0_find_48 (c_X5_isChoice (by exact hh) i (by omega)) zm_X0_37 zv_X5_isChoice rfl rfl rfl rfl (by decide) (by decide) (Nat.le_of_ble_eq_true rfl) ?_
    refine Z.if_eq_b (pc := 51) (tgt := 83) dX0_find_51 (by decide) (fun c51 => ?_) (fun c51 => ?_)
    · have eS : abN k s f n hr g tn (i + 1) = abN k s f n hr g tn i := by show _ + cond _ _ _ = _; rw [show abB k s f n hr g i = false from by simp [abB, c51]]; rfl
      rw [← eS]
      refine Z.iinc (pc := 83) (i := 5) (v := (nI (i + 1))) dX0_find_83 rfl (by exact ii_1 i) (by decide) rfl ?_
      refine Z.goto (pc := 86) (tgt := 26) dX0_find_86 (by decide) ?_
      exact ih (i + 1) (by omega) (by omega)
    · have hd : dif i hr = 0 := chB_t c51
      refine Z.iload_n (pc := 54) (i := 2) dX0_find_54 rfl rfl ?_
      refine Z.aload_n (pc := 55) (i := 1) dX0_find_55 rfl rfl ?_
      refine Z.getR (pc := 56) dX0_find_56 zf_X0_34 rfl rfl ?_
      refine Z.iload (pc := 59) (i := 5) dX0_find_59 rfl ?_
      refine Z.iald (pc := 61) dX0_find_61 rfl (by omega) (by decide) ?_
      refine Z.top (show _ = nI (mst k s f n hr i) from hT i (by omega) hd) ?_
      refine Z.callNi (pc := 62) dX0_find_62 (c_X8_isAmong g _ (by omega) (Nat.lt_of_le_of_lt mst_le (by omega))) (Or.inr (Or.inr ⟨rfl, rfl⟩)) zs_X8_isAmong rfl rfl (by decide) (by decide) (Nat.le_of_ble_eq_true rfl) ?_
      refine Z.if_eq_b (pc := 65) (tgt := 83) dX0_find_65 (by decide) (fun c65 => ?_) (fun c65 => ?_)
      · have eS : abN k s f n hr g tn (i + 1) = abN k s f n hr g tn i := by show _ + cond _ _ _ = _; rw [show abB k s f n hr g i = false from by simp [abB, c65]]; rfl
        rw [← eS]
        refine Z.iinc (pc := 83) (i := 5) (v := (nI (i + 1))) dX0_find_83 rfl (by exact ii_1 i) (by decide) rfl ?_
        refine Z.goto (pc := 86) (tgt := 26) dX0_find_86 (by decide) ?_
        exact ih (i + 1) (by omega) (by omega)
      · have hbg : i.testBit g = true := mst_sub c65
        have hpi : 1 ≤ pop i := pop_pos (by omega) (fun q => by rw [q, Nat.zero_testBit] at hbg; cases hbg)
        have hpl : pop i ≤ pop hr := pop_sub (fun j => ch_bit hd)
        have eS : abN k s f n hr g tn i + wtN (pop hr - 1) tn (pop i - 1) = abN k s f n hr g tn (i + 1) := by show _ = _ + cond _ _ _; rw [show abB k s f n hr g i = true from by simp [abB, c51, c65]]; rfl
        refine Z.aload_n (pc := 68) (i := 0) dX0_find_68 rfl rfl ?_
        refine Z.dup (pc := 69) dX0_find_69 rfl ?_
        refine Z.getIv (pc := 70) dX0_find_70 zf_X0_31 rfl rfl (z_up_at _ _ _ _) ?_
        refine Z.aload_n (pc := 73) (i := 0) dX0_find_73 rfl rfl ?_
        refine Z.iload (pc := 74) (i := 5) dX0_find_74 rfl ?_
        refine Z.callVi (pc := 76) dX0_find_76 (c_X0_weightOf i (by omega) hpi (by omega)) zm_X0_45 zv_X0_weightOf rfl rfl rfl rfl (by decide) (by decide) (Nat.le_of_ble_eq_true rfl) ?_
        refine Z.top (show _ = nI (wtN (pop hr - 1) tn (pop i - 1)) from if_pos (show pop i - 1 < (pop hr - 1) + 1 by omega)) ?_
        refine Z.iadd (pc := 79) dX0_find_79 ?_
        refine Z.top ((nI_add _ _).trans (congrArg nI eS)) ?_
        refine Z.putI (pc := 80) dX0_find_80 zp_X0_31 rfl rfl rfl rfl ?_
        rw [z_up_up]
        refine Z.iinc (pc := 83) (i := 5) (v := (nI (i + 1))) dX0_find_83 rfl (by exact ii_1 i) (by decide) rfl ?_
        refine Z.goto (pc := 86) (tgt := 26) dX0_find_86 (by decide) ?_
        exact ih (i + 1) (by omega) (by omega)
set_option maxRecDepth 100000 in
set_option maxHeartbeats 400000 in
theorem c_X0_find {h : hp} {n hr : Nat} {k s f : Nat → Int32} (hh : h.1 23 1 = nI hr) (hr8 : hr < 256) (hT : TB k s f n hr (hr + 1) (h.1 24)) (g tn : Nat) (hg : g < 8) (ht : tn ≤ 10) (hpop : 1 ≤ pop hr)  : Cn yX0_find cX0_find 6 none 2 [.ref 25, .ref 23, .int (nI g), .int (nI tn)] h (z_eq none (chX h (pop hr - 1) tn (abN k s f n hr g tn (hr + 1)))) := by
  have hp8 := pop8 hr8
  refine Cn.of (by decide) (Nat.le_of_ble_eq_true rfl) ?_
  refine Z.eqL (lv' := [(0, .ref 25), (1, .ref 23), (2, .int (nI g)), (3, .int (nI tn))]) rfl ?_
  refine Z.aload_n (pc := 0) (i := 1) dX0_find_0 rfl rfl ?_
  refine Z.getIv (pc := 1) dX0_find_1 zf_X0_15 rfl rfl hh ?_
  refine Z.callSi (pc := 4) dX0_find_4 (c_J6_bitCount_0f7a4 hr (by omega)) zm_X0_21 zs_J6_bitCount_0f7a4 rfl rfl (by decide) (by decide) (Nat.le_of_ble_eq_true rfl) ?_
  refine Z.iconst (pc := 7) (v := (nI 1)) dX0_find_7 (by decide) ?_
  refine Z.isub (pc := 8) dX0_find_8 ?_
  refine Z.top (pk_sub hpop) ?_
  refine Z.istore (pc := 9) (i := 4) dX0_find_9 (by decide) rfl ?_
  refine Z.aload_n (pc := 11) (i := 0) dX0_find_11 rfl rfl ?_
  refine Z.iload (pc := 12) (i := 4) dX0_find_12 rfl ?_
  refine Z.iload_n (pc := 14) (i := 3) dX0_find_14 rfl rfl ?_
  refine Z.callVv (pc := 15) dX0_find_15 (c_X0_weigh _ tn (by omega) ht) zm_X0_27 zv_X0_weigh rfl rfl rfl rfl (by decide) (by decide) (Nat.le_of_ble_eq_true rfl) ?_
  refine Z.aload_n (pc := 18) (i := 0) dX0_find_18 rfl rfl ?_
  refine Z.iconst (pc := 19) (v := (nI 0)) dX0_find_19 (by decide) ?_
  refine Z.top (show nI 0 = nI (abN k s f n hr g tn 1) from by rw [ab_1]) ?_
  refine Z.putI (pc := 20) dX0_find_20 zp_X0_31 rfl rfl rfl rfl ?_
  refine Z.iconst (pc := 23) (v := (nI 1)) dX0_find_23 (by decide) ?_
  refine Z.istore (pc := 24) (i := 5) dX0_find_24 (by decide) rfl ?_
  exact l_X0_find hh hr8 hT g tn hg ht hpop hr 1 (by omega) (by omega)
