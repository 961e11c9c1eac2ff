set_option maxRecDepth 100000 in
set_option maxHeartbeats 400000 in
theorem l_X2_hintsToRise {h : hp} {n hr : Nat} {k s f : Nat → Int32} (hR : Rm h 3 n hr k s f) (m : Nat) (hm : m < 2 ^ n) : ∀ (r i : Nat) (acc : Int32), i + r = 8 → hiR k s f (m ||| gon n hr) m r i acc = hiT k s f n hr m → Z yX2_hintsToRise cX2_hintsToRise 8 (some .int) 2 (z_eq (some (.int (hiT k s f n hr m))) h) 19 [(0, .ref 3), (1, .int (nI m)), (2, .int (nI (m ||| gon n hr))), (3, .int (cntI k (m ||| gon n hr))), (4, .int acc), (5, .int (nI i))] [] h := by
  have hn8 := hR.2.2.2.1.1
  intro r
  induction r with
  | zero =>
    intro i acc hi hX
    obtain rfl : 8 = i := by omega
    refine Z.iload (pc := 19) (i := 5) dX2_hintsToRise_19 rfl ?_
    refine Z.bipush (pc := 21) (v := (nI 8)) dX2_hintsToRise_21 (by decide) ?_
    refine Z.icmp_ge_t (pc := 23) (tgt := 101) dX2_hintsToRise_23 (by decide) (nI_le (Nat.le_refl 8) (by decide)) ?_
    refine Z.iload (pc := 101) (i := 4) dX2_hintsToRise_101 rfl ?_
    refine Z.iret (pc := 103) (ty := .int) dX2_hintsToRise_103 rfl rfl ?_
    exact ⟨by rw [← hX]; rfl, rfl⟩
  | succ r ih =>
    intro i acc hi hX
    refine Z.iload (pc := 19) (i := 5) dX2_hintsToRise_19 rfl ?_
    refine Z.bipush (pc := 21) (v := (nI 8)) dX2_hintsToRise_21 (by decide) ?_
    refine Z.icmp_ge_f (pc := 23) (tgt := 101) dX2_hintsToRise_23 (by decide) (nI_ge (by omega) (by decide)) ?_
    refine Z.iload (pc := 26) (i := 5) dX2_hintsToRise_26 rfl ?_
    refine Z.iload_n (pc := 28) (i := 1) dX2_hintsToRise_28 rfl rfl ?_
    refine Z.callNi (pc := 29) dX2_hintsToRise_29 (c_X8_isAmong i m (by omega) (l31 hm hn8)) (Or.inr (Or.inl ⟨rfl, rfl⟩)) zs_X8_isAmong rfl rfl (by decide) (by decide) (Nat.le_of_ble_eq_true rfl) ?_
    refine Z.if_eq_b (pc := 32) (tgt := 95) dX2_hintsToRise_32 (by decide) (fun c32 => ?_) (fun c32 => ?_)
    · rw [hiR_f c32] at hX
      refine Z.iinc (pc := 95) (i := 5) (v := (nI (i + 1))) dX2_hintsToRise_95 rfl (by exact ii_1 i) (by decide) rfl ?_
      refine Z.goto (pc := 98) (tgt := 19) dX2_hintsToRise_98 (by decide) ?_
      refine Z.drop 6 ?_
      refine Z.drop 7 ?_
      exact ih (i + 1) _ (by omega) hX
    · have hin : i < n := tb_lt hm c32
      obtain ⟨a, ha, hsa⟩ := hR.2.2.2.1.2.2.1 i hin
      refine Z.iload_n (pc := 35) (i := 3) dX2_hintsToRise_35 rfl rfl ?_
      refine Z.aload_n (pc := 36) (i := 0) dX2_hintsToRise_36 rfl rfl ?_
      refine Z.getR (pc := 37) dX2_hintsToRise_37 zf_X2_41 rfl rfl ?_
      refine Z.iload (pc := 40) (i := 5) dX2_hintsToRise_40 rfl ?_
      refine Z.iald (pc := 42) dX2_hintsToRise_42 rfl (by omega) (by decide) ?_
      refine Z.top (show _ = k i from congrFun hR.2.2.2.2.1 i) ?_
      refine Z.callSi (pc := 43) dX2_hintsToRise_43 (c_X3_countsAs _) zm_X2_44 zs_X3_countsAs rfl rfl (by decide) (by decide) (Nat.le_of_ble_eq_true rfl) ?_
      refine Z.isub (pc := 46) dX2_hintsToRise_46 ?_
      refine Z.istore (pc := 47) (i := 6) dX2_hintsToRise_47 (by decide) rfl ?_
      refine Z.aload_n (pc := 49) (i := 0) dX2_hintsToRise_49 rfl rfl ?_
      refine Z.getR (pc := 50) dX2_hintsToRise_50 zf_X2_41 rfl rfl ?_
      refine Z.iload (pc := 53) (i := 5) dX2_hintsToRise_53 rfl ?_
      refine Z.iald (pc := 55) dX2_hintsToRise_55 rfl (by omega) (by decide) ?_
      refine Z.top (show _ = k i from congrFun hR.2.2.2.2.1 i) ?_
      refine Z.aload_n (pc := 56) (i := 0) dX2_hintsToRise_56 rfl rfl ?_
      refine Z.getR (pc := 57) dX2_hintsToRise_57 zf_X2_49 rfl rfl ?_
      refine Z.iload (pc := 60) (i := 5) dX2_hintsToRise_60 rfl ?_
      refine Z.iald (pc := 62) dX2_hintsToRise_62 rfl (by omega) (by decide) ?_
      refine Z.top ((show _ = s i from congrFun hR.2.2.2.2.2.1 i).trans hsa) ?_
      refine Z.iload (pc := 63) (i := 6) dX2_hintsToRise_63 rfl ?_
      refine Z.callSi (pc := 65) dX2_hintsToRise_65 (c_X3_hintsTill _ _ a (hR.2.2.2.1.2.1 i hin) ha) zm_X2_52 zs_X3_hintsTill rfl rfl (by decide) (by decide) (Nat.le_of_ble_eq_true rfl) ?_
      refine Z.istore (pc := 68) (i := 7) dX2_hintsToRise_68 (by decide) rfl ?_
      refine Z.iload (pc := 70) (i := 7) dX2_hintsToRise_70 rfl ?_
      refine Z.iconst (pc := 72) (v := (-1)) dX2_hintsToRise_72 (by decide) ?_
      refine Z.icmp_eq (pc := 73) (tgt := 86) dX2_hintsToRise_73 (by decide) (fun c73 => ?_) (fun c73 => ?_)
      · refine Z.iconst (pc := 86) (v := (-1)) dX2_hintsToRise_86 (by decide) ?_
        refine Z.iret (pc := 87) (ty := .int) dX2_hintsToRise_87 rfl rfl ?_
        refine ⟨?_, rfl⟩
        first | rw [← hX, hiR_n c32 hsa ha (Or.inl c73)] | rw [← hX, hiR_n c32 hsa ha (Or.inr c83)]
      · refine Z.aload_n (pc := 76) (i := 0) dX2_hintsToRise_76 rfl rfl ?_
        refine Z.iload (pc := 77) (i := 5) dX2_hintsToRise_77 rfl ?_
        refine Z.iload_n (pc := 79) (i := 2) dX2_hintsToRise_79 rfl rfl ?_
        refine Z.callVi (pc := 80) dX2_hintsToRise_80 (c_X6_hasFriendAmong (o := 3) (Or.inl rfl) hR i _ hin (or_lt hm (gon_lt n hr))) zm_X2_56 zv_X6_hasFriendAmong rfl rfl rfl rfl (by decide) (by decide) (Nat.le_of_ble_eq_true rfl) ?_
        refine Z.if_ne_b (pc := 83) (tgt := 88) dX2_hintsToRise_83 (by decide) (fun c83 => ?_) (fun c83 => ?_)
        · rw [hiR_s c32 hsa ha c73 c83] at hX
          refine Z.iload (pc := 88) (i := 4) dX2_hintsToRise_88 rfl ?_
          refine Z.iload (pc := 90) (i := 7) dX2_hintsToRise_90 rfl ?_
          refine Z.iadd (pc := 92) dX2_hintsToRise_92 ?_
          refine Z.istore (pc := 93) (i := 4) dX2_hintsToRise_93 (by decide) rfl ?_
          refine Z.iinc (pc := 95) (i := 5) (v := (nI (i + 1))) dX2_hintsToRise_95 rfl (by exact ii_1 i) (by decide) rfl ?_
          refine Z.goto (pc := 98) (tgt := 19) dX2_hintsToRise_98 (by decide) ?_
          refine Z.drop 6 ?_
          refine Z.drop 7 ?_
          exact ih (i + 1) _ (by omega) hX
        · refine Z.iconst (pc := 86) (v := (-1)) dX2_hintsToRise_86 (by decide) ?_
          refine Z.iret (pc := 87) (ty := .int) dX2_hintsToRise_87 rfl rfl ?_
          refine ⟨?_, rfl⟩
          first | rw [← hX, hiR_n c32 hsa ha (Or.inl c73)] | rw [← hX, hiR_n c32 hsa ha (Or.inr c83)]
set_option maxRecDepth 100000 in
set_option maxHeartbeats 400000 in
theorem c_X2_hintsToRise {h : hp} {n hr : Nat} {k s f : Nat → Int32} (hR : Rm h 3 n hr k s f) (m : Nat) (hm : m < 2 ^ n)  : Cn yX2_hintsToRise cX2_hintsToRise 8 (some .int) 2 [.ref 3, .int (nI m)] h (z_eq (some (.int (hiT k s f n hr m))) h) := by
  refine Cn.of (by decide) (Nat.le_of_ble_eq_true rfl) ?_
  refine Z.eqL (lv' := [(0, .ref 3), (1, .int (nI m))]) rfl ?_
  refine Z.iload_n (pc := 0) (i := 1) dX2_hintsToRise_0 rfl rfl ?_
  refine Z.aload_n (pc := 1) (i := 0) dX2_hintsToRise_1 rfl rfl ?_
  refine Z.callVi (pc := 2) dX2_hintsToRise_2 (c_X6_gone (o := 3) (Or.inl rfl) hR) zm_X2_33 zv_X6_gone rfl rfl rfl rfl (by decide) (by decide) (Nat.le_of_ble_eq_true rfl) ?_
  refine Z.ior (pc := 5) dX2_hintsToRise_5 ?_
  refine Z.top (nb_or _ _) ?_
  refine Z.istore_n (pc := 6) (i := 2) dX2_hintsToRise_6 rfl (by decide) rfl ?_
  refine Z.aload_n (pc := 7) (i := 0) dX2_hintsToRise_7 rfl rfl ?_
  refine Z.iload_n (pc := 8) (i := 2) dX2_hintsToRise_8 rfl rfl ?_
  refine Z.callVi (pc := 9) dX2_hintsToRise_9 (c_X6_countTogether (o := 3) (Or.inl rfl) hR _ (or_lt hm (gon_lt n hr))) zm_X2_37 zv_X6_countTogether rfl rfl rfl rfl (by decide) (by decide) (Nat.le_of_ble_eq_true rfl) ?_
  refine Z.istore_n (pc := 12) (i := 3) dX2_hintsToRise_12 rfl (by decide) rfl ?_
  refine Z.iconst (pc := 13) (v := (0)) dX2_hintsToRise_13 (by decide) ?_
  refine Z.istore (pc := 14) (i := 4) dX2_hintsToRise_14 (by decide) rfl ?_
  refine Z.iconst (pc := 16) (v := (nI 0)) dX2_hintsToRise_16 (by decide) ?_
  refine Z.istore (pc := 17) (i := 5) dX2_hintsToRise_17 (by decide) rfl ?_
  exact l_X2_hintsToRise hR m hm 8 0 0 rfl rfl
set_option maxRecDepth 100000 in
set_option maxHeartbeats 400000 in
theorem l_X2_noteFor {h : hp} (m : Nat) (hm : m < 2 ^ 31) (nd : Int32) (hnd : ¬ nd = -1) : ∀ (r i : Nat) , i + r = 8 → Z yX2_noteFor cX2_noteFor 4 none 1 (z_eq none (z_row h 28 (noteR (h.1 28) m nd))) 8 [(0, .ref 27), (1, .int (nI m)), (2, .int nd), (3, .int (nI i))] [] (z_row h 28 (nfR (h.1 28) m nd i)) := by
  intro r
  induction r with
  | zero =>
    intro i hi
    obtain rfl : 8 = i := by omega
    refine Z.iload_n (pc := 8) (i := 3) dX2_noteFor_8 rfl rfl ?_
    refine Z.bipush (pc := 9) (v := (nI 8)) dX2_noteFor_9 (by decide) ?_
    refine Z.icmp_ge_t (pc := 11) (tgt := 55) dX2_noteFor_11 (by decide) (nI_le (Nat.le_refl 8) (by decide)) ?_
    refine Z.vret (pc := 55) dX2_noteFor_55 rfl ?_
    exact ⟨rfl, by unfold noteR; rw [if_neg hnd]⟩
  | succ r ih =>
    intro i hi
    refine Z.iload_n (pc := 8) (i := 3) dX2_noteFor_8 rfl rfl ?_
    refine Z.bipush (pc := 9) (v := (nI 8)) dX2_noteFor_9 (by decide) ?_
    refine Z.icmp_ge_f (pc := 11) (tgt := 55) dX2_noteFor_11 (by decide) (nI_ge (by omega) (by decide)) ?_
    refine Z.iload_n (pc := 14) (i := 3) dX2_noteFor_14 rfl rfl ?_
    refine Z.iload_n (pc := 15) (i := 1) dX2_noteFor_15 rfl rfl ?_
    refine Z.callNi (pc := 16) dX2_noteFor_16 (c_X8_isAmong i m (by omega) hm) (Or.inr (Or.inl ⟨rfl, rfl⟩)) zs_X8_isAmong rfl rfl (by decide) (by decide) (Nat.le_of_ble_eq_true rfl) ?_
    refine Z.if_eq_b (pc := 19) (tgt := 49) dX2_noteFor_19 (by decide) (fun c19 => ?_) (fun c19 => ?_)
    · rw [nfR_f (fun q => by rw [c19] at q; exact absurd q.1 (by decide))]
      refine Z.iinc (pc := 49) (i := 3) (v := (nI (i + 1))) dX2_noteFor_49 rfl (by exact ii_1 i) (by decide) rfl ?_
      refine Z.goto (pc := 52) (tgt := 8) dX2_noteFor_52 (by decide) ?_
      exact ih (i + 1) (by omega)
    · refine Z.aload_n (pc := 22) (i := 0) dX2_noteFor_22 rfl rfl ?_
      refine Z.getR (pc := 23) dX2_noteFor_23 zf_X2_9 rfl rfl ?_
      refine Z.iload_n (pc := 26) (i := 3) dX2_noteFor_26 rfl rfl ?_
      refine Z.iald (pc := 27) dX2_noteFor_27 rfl (by omega) (by decide) ?_
      refine Z.top (show _ = h.1 28 i from nfR_at (h.1 28) m nd i) ?_
      refine Z.iconst (pc := 28) (v := (-1)) dX2_noteFor_28 (by decide) ?_
      refine Z.icmp_eq (pc := 29) (tgt := 42) dX2_noteFor_29 (by decide) (fun c29 => ?_) (fun c29 => ?_)
      · refine Z.aload_n (pc := 42) (i := 0) dX2_noteFor_42 rfl rfl ?_
        refine Z.getR (pc := 43) dX2_noteFor_43 zf_X2_9 rfl rfl ?_
        refine Z.iload_n (pc := 46) (i := 3) dX2_noteFor_46 rfl rfl ?_
        refine Z.iload_n (pc := 47) (i := 2) dX2_noteFor_47 rfl rfl ?_
        refine Z.iast (pc := 48) dX2_noteFor_48 rfl (by omega) (by decide) ?_
        first | rw [z_up_row, z_row_at, z_row_row, nfR_t c19 (Or.inl c29)] | rw [z_up_row, z_row_at, z_row_row, nfR_t c19 (Or.inr (nle c39))]
        refine Z.iinc (pc := 49) (i := 3) (v := (nI (i + 1))) dX2_noteFor_49 rfl (by exact ii_1 i) (by decide) rfl ?_
        refine Z.goto (pc := 52) (tgt := 8) dX2_noteFor_52 (by decide) ?_
        exact ih (i + 1) (by omega)
      · refine Z.iload_n (pc := 32) (i := 2) dX2_noteFor_32 rfl rfl ?_
        refine Z.aload_n (pc := 33) (i := 0) dX2_noteFor_33 rfl rfl ?_
        refine Z.getR (pc := 34) dX2_noteFor_34 zf_X2_9 rfl rfl ?_
        refine Z.iload_n (pc := 37) (i := 3) dX2_noteFor_37 rfl rfl ?_
        refine Z.iald (pc := 38) dX2_noteFor_38 rfl (by omega) (by decide) ?_
        refine Z.top (show _ = h.1 28 i from nfR_at (h.1 28) m nd i) ?_
        refine Z.icmp_ge (pc := 39) (tgt := 49) dX2_noteFor_39 (by decide) (fun c39 => ?_) (fun c39 => ?_)
        · rw [nfR_f (fun q => q.2.elim c29 (fun w => lt_nle w c39))]
          refine Z.iinc (pc := 49) (i := 3) (v := (nI (i + 1))) dX2_noteFor_49 rfl (by exact ii_1 i) (by decide) rfl ?_
          refine Z.goto (pc := 52) (tgt := 8) dX2_noteFor_52 (by decide) ?_
          exact ih (i + 1) (by omega)
        · refine Z.aload_n (pc := 42) (i := 0) dX2_noteFor_42 rfl rfl ?_
          refine Z.getR (pc := 43) dX2_noteFor_43 zf_X2_9 rfl rfl ?_
          refine Z.iload_n (pc := 46) (i := 3) dX2_noteFor_46 rfl rfl ?_
          refine Z.iload_n (pc := 47) (i := 2) dX2_noteFor_47 rfl rfl ?_
          refine Z.iast (pc := 48) dX2_noteFor_48 rfl (by omega) (by decide) ?_
          first | rw [z_up_row, z_row_at, z_row_row, nfR_t c19 (Or.inl c29)] | rw [z_up_row, z_row_at, z_row_row, nfR_t c19 (Or.inr (nle c39))]
          refine Z.iinc (pc := 49) (i := 3) (v := (nI (i + 1))) dX2_noteFor_49 rfl (by exact ii_1 i) (by decide) rfl ?_
          refine Z.goto (pc := 52) (tgt := 8) dX2_noteFor_52 (by decide) ?_
          exact ih (i + 1) (by omega)
set_option maxRecDepth 100000 in
set_option maxHeartbeats 400000 in
theorem c_X2_noteFor {h : hp} (m : Nat) (hm : m < 2 ^ 31) (nd : Int32)  : Cn yX2_noteFor cX2_noteFor 4 none 1 [.ref 27, .int (nI m), .int nd] h (z_eq none (z_row h 28 (noteR (h.1 28) m nd))) := by
  refine Cn.of (by decide) (Nat.le_of_ble_eq_true rfl) ?_
  refine Z.eqL (lv' := [(0, .ref 27), (1, .int (nI m)), (2, .int nd)]) rfl ?_
  refine Z.iload_n (pc := 0) (i := 2) dX2_noteFor_0 rfl rfl ?_
  refine Z.iconst (pc := 1) (v := (-1)) dX2_noteFor_1 (by decide) ?_
  refine Z.icmp_ne (pc := 2) (tgt := 6) dX2_noteFor_2 (by decide) (fun c2 => ?_) (fun c2 => ?_)
  · refine Z.iconst (pc := 6) (v := (nI 0)) dX2_noteFor_6 (by decide) ?_
    refine Z.istore_n (pc := 7) (i := 3) dX2_noteFor_7 rfl (by decide) rfl ?_
    have e := l_X2_noteFor (h := h) m hm nd c2 8 0 rfl
    rw [nfR_0, z_row_id] at e
    exact e
  · refine Z.vret (pc := 5) dX2_noteFor_5 rfl ?_
    exact ⟨rfl, by unfold noteR; rw [if_pos c2, z_row_id]⟩
set_option maxRecDepth 100000 in
set_option maxHeartbeats 400000 in
theorem l_X2_find {h : hp} {n hr : Nat} {k s f : Nat → Int32} (hR : Rm h 3 n hr k s f) : ∀ (r i : Nat) , i + r = hr → Z yX2_find cX2_find 3 none 3 (z_eq none (z_row h 28 (hoT k s f n hr (h.1 28)))) 23 [(0, .ref 27), (1, .ref 3), (2, .int (nI (i + 1)))] [] (z_row h 28 (hoR k s f n hr (rdR hm1 (h.1 28) 8) i)) := by
  have hn8 := hR.2.2.2.1.1
  have hp8 := p8 hn8
  have hlt := hR.2.2.1
  intro r
  induction r with
  | zero =>
    intro i hi
    obtain rfl : hr = i := by omega
    refine Z.iload_n (pc := 23) (i := 2) dX2_find_23 rfl rfl ?_
    refine Z.aload_n (pc := 24) (i := 1) dX2_find_24 rfl rfl ?_
    refine Z.getIv (pc := 25) dX2_find_25 zf_X2_15 rfl rfl (show _ = nI hr from hR.2.1) ?_
    refine Z.icmp_gt_t (pc := 28) (tgt := 65) dX2_find_28 (by decide) (nI_lt (by omega) (by omega)) ?_
    refine Z.vret (pc := 65) dX2_find_65 rfl ?_
    exact ⟨rfl, rfl⟩
  | succ r ih =>
    intro i hi
    refine Z.iload_n (pc := 23) (i := 2) dX2_find_23 rfl rfl ?_
    refine Z.aload_n (pc := 24) (i := 1) dX2_find_24 rfl rfl ?_
    refine Z.getIv (pc := 25) dX2_find_25 zf_X2_15 rfl rfl (show _ = nI hr from hR.2.1) ?_
    refine Z.icmp_gt_f (pc := 28) (tgt := 65) dX2_find_28 (by decide) (nI_nlt (by omega) (by omega)) ?_
    refine Z.iload_n (pc := 31) (i := 2) dX2_find_31 rfl rfl ?_
    refine Z.sipush (pc := 32) (v := (nI 256)) dX2_find_32 (by decide) ?_
    refine Z.icmp_ge_f (pc := 35) (tgt := 65) dX2_find_35 (by decide) (nI_ge (b := 256) (by omega) (by decide)) ?_
    refine Z.iload_n (pc := 38) (i := 2) dX2_find_38 rfl rfl ?_
    refine Z.aload_n (pc := 39) (i := 1) dX2_find_39 rfl rfl ?_
    refine Z.getIv (pc := 40) dX2_find_40 zf_X2_15 rfl rfl (show _ = nI hr from hR.2.1) ?_
    refine Z.iconst (pc := 43) (v := (-1)) dX2_find_43 (by decide) ?_
    refine Z.ixor (pc := 44) dX2_find_44 ?_
    refine Z.iand (pc := 45) dX2_find_45 ?_
    refine Z.top (nb_dif _ _) ?_
    refine Z.if_ne (pc := 46) (tgt := 59) dX2_find_46 (by decide) (fun c46 => ?_) (fun c46 => ?_)
    · have hd : ¬ dif (i + 1) hr = 0 := fun q => c46 (by rw [q]; rfl)
      rw [hoR_k hd]
      refine Z.iinc (pc := 59) (i := 2) (v := (nI (i + 1 + 1))) dX2_find_59 rfl (by exact ii_1 (i + 1)) (by decide) rfl ?_
      refine Z.goto (pc := 62) (tgt := 23) dX2_find_62 (by decide) ?_
      exact ih (i + 1) (by omega)
    · have hd : dif (i + 1) hr = 0 := by rw [← nI_0] at c46; exact (nI_eq (Nat.lt_of_le_of_lt (dif_le _ _) (by omega)) (by decide)).mp c46
      have hi2 : i + 1 < 2 ^ n := Nat.lt_of_le_of_lt (ch_le hd) hlt
      refine Z.aload_n (pc := 49) (i := 0) dX2_find_49 rfl rfl ?_
      refine Z.iload_n (pc := 50) (i := 2) dX2_find_50 rfl rfl ?_
      refine Z.aload_n (pc := 51) (i := 1) dX2_find_51 rfl rfl ?_
      refine Z.iload_n (pc := 52) (i := 2) dX2_find_52 rfl rfl ?_
      refine Z.callSi (pc := 53) dX2_find_53 (c_X2_hintsToRise (Rm_out (r := 28) (t := hoR k s f n hr (rdR hm1 (h.1 28) 8) i) hR (by decide) (by decide) (by decide) (by decide)) _ hi2) zm_X2_21 zs_X2_hintsToRise rfl rfl (by decide) (by decide) (Nat.le_of_ble_eq_true rfl) ?_
      refine Z.callVv (pc := 56) dX2_find_56 (c_X2_noteFor _ (by omega) _) zm_X2_25 zv_X2_noteFor rfl rfl rfl rfl (by decide) (by decide) (Nat.le_of_ble_eq_true rfl) ?_
      rw [z_row_row, z_row_at, hoR_s hd]
      refine Z.iinc (pc := 59) (i := 2) (v := (nI (i + 1 + 1))) dX2_find_59 rfl (by exact ii_1 (i + 1)) (by decide) rfl ?_
      refine Z.goto (pc := 62) (tgt := 23) dX2_find_62 (by decide) ?_
      exact ih (i + 1) (by omega)
set_option maxRecDepth 100000 in
set_option maxHeartbeats 400000 in
theorem l_X2_find1 {h : hp} {n hr : Nat} {k s f : Nat → Int32} (hR : Rm h 3 n hr k s f) : ∀ (r i : Nat) , i + r = 8 → Z yX2_find cX2_find 3 none 3 (z_eq none (z_row h 28 (hoT k s f n hr (h.1 28)))) 2 [(0, .ref 27), (1, .ref 3), (2, .int (nI i))] [] (z_row h 28 (rdR hm1 (h.1 28) i)) := by
  intro r
  induction r with
  | zero =>
    intro i hi
    obtain rfl : 8 = i := by omega
    refine Z.iload_n (pc := 2) (i := 2) dX2_find_2 rfl rfl ?_
    refine Z.bipush (pc := 3) (v := (nI 8)) dX2_find_3 (by decide) ?_
    refine Z.icmp_ge_t (pc := 5) (tgt := 21) dX2_find_5 (by decide) (nI_le (Nat.le_refl 8) (by decide)) ?_
    refine Z.iconst (pc := 21) (v := (nI 1)) dX2_find_21 (by decide) ?_
    refine Z.istore_n (pc := 22) (i := 2) dX2_find_22 rfl (by decide) rfl ?_
    exact l_X2_find hR hr 0 (by omega)
  | succ r ih =>
    intro i hi
    refine Z.iload_n (pc := 2) (i := 2) dX2_find_2 rfl rfl ?_
    refine Z.bipush (pc := 3) (v := (nI 8)) dX2_find_3 (by decide) ?_
    refine Z.icmp_ge_f (pc := 5) (tgt := 21) dX2_find_5 (by decide) (nI_ge (by omega) (by decide)) ?_
    refine Z.aload_n (pc := 8) (i := 0) dX2_find_8 rfl rfl ?_
    refine Z.getR (pc := 9) dX2_find_9 zf_X2_9 rfl rfl ?_
    refine Z.iload_n (pc := 12) (i := 2) dX2_find_12 rfl rfl ?_
    refine Z.iconst (pc := 13) (v := (-1)) dX2_find_13 (by decide) ?_
    refine Z.iast (pc := 14) dX2_find_14 rfl (by omega) (by decide) ?_
    rw [z_up_row, z_row_at, z_row_row, show (-1 : Int32) = hm1 i from rfl, rdR_s hm1 (h.1 28) i]
    refine Z.iinc (pc := 15) (i := 2) (v := (nI (i + 1))) dX2_find_15 rfl (by exact ii_1 i) (by decide) rfl ?_
    refine Z.goto (pc := 18) (tgt := 2) dX2_find_18 (by decide) ?_
    exact ih (i + 1) (by omega)
set_option maxRecDepth 100000 in
set_option maxHeartbeats 400000 in
theorem c_X2_find {h : hp} {n hr : Nat} {k s f : Nat → Int32} (hR : Rm h 3 n hr k s f)  : Cn yX2_find cX2_find 3 none 3 [.ref 27, .ref 3] h (z_eq none (z_row h 28 (hoT k s f n hr (h.1 28)))) := by
  refine Cn.of (by decide) (Nat.le_of_ble_eq_true rfl) ?_
  refine Z.eqL (lv' := [(0, .ref 27), (1, .ref 3)]) rfl ?_
  refine Z.iconst (pc := 0) (v := (nI 0)) dX2_find_0 (by decide) ?_
  refine Z.istore_n (pc := 1) (i := 2) dX2_find_1 rfl (by decide) rfl ?_
  have e := l_X2_find1 hR 8 0 rfl
  rw [rdR_0, z_row_id] at e
  exact e
