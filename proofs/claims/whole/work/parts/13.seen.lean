set_option maxRecDepth 100000 in
set_option maxHeartbeats 400000 in
theorem l_X6_readFrom {h : hp} {len n : Nat} (hl : h.1 1 1 = nI len) (hl36 : len ≤ 36) (hn : len = 4 * n + 2) (hn8 : n ≤ 8) : ∀ (r i : Nat) , i + r = n → Z yX6_readFrom cX6_readFrom 4 none 5 (z_eq none (rdH h n)) 41 [(0, .ref 3), (1, .ref 1), (2, .int (nI i))] [] (z_r3 (rdB h n) 4 (rdR (pgK (h.1 2)) (h.1 4) i) 5 (rdR (pgS (h.1 2)) (h.1 5) i) 6 (rdR (pgF (h.1 2)) (h.1 6) i)) := by
  intro r
  induction r with
  | zero =>
    intro i hi
    obtain rfl : n = i := by omega
    refine Z.iload_n (pc := 41) (i := 2) dX6_readFrom_41 rfl rfl ?_
    refine Z.aload_n (pc := 42) (i := 0) dX6_readFrom_42 rfl rfl ?_
    refine Z.getIv (pc := 43) dX6_readFrom_43 zf_X6_27 rfl rfl (show _ = nI n from rfl) ?_
    refine Z.icmp_ge_t (pc := 46) (tgt := 122) dX6_readFrom_46 (by decide) (nI_le (Nat.le_refl _) (by omega)) ?_
    refine Z.vret (pc := 122) dX6_readFrom_122 rfl ?_
    exact ⟨rfl, rfl⟩
  | succ r ih =>
    intro i hi
    refine Z.iload_n (pc := 41) (i := 2) dX6_readFrom_41 rfl rfl ?_
    refine Z.aload_n (pc := 42) (i := 0) dX6_readFrom_42 rfl rfl ?_
    refine Z.getIv (pc := 43) dX6_readFrom_43 zf_X6_27 rfl rfl (show _ = nI n from rfl) ?_
    refine Z.icmp_ge_f (pc := 46) (tgt := 122) dX6_readFrom_46 (by decide) (nI_ge (by omega) (by omega)) ?_
    refine Z.iload_n (pc := 49) (i := 2) dX6_readFrom_49 rfl rfl ?_
    refine Z.bipush (pc := 50) (v := (nI 8)) dX6_readFrom_50 (by decide) ?_
    refine Z.icmp_ge_f (pc := 52) (tgt := 122) dX6_readFrom_52 (by decide) (nI_ge (by omega) (by decide)) ?_
    refine Z.iload_n (pc := 55) (i := 2) dX6_readFrom_55 rfl rfl ?_
    refine Z.callSi (pc := 56) dX6_readFrom_56 (c_X4_placeOf i) zm_X6_46 zs_X4_placeOf rfl rfl (by decide) (by decide) (Nat.le_of_ble_eq_true rfl) ?_
    refine Z.istore_n (pc := 59) (i := 3) dX6_readFrom_59 rfl (by decide) rfl ?_
    refine Z.aload_n (pc := 60) (i := 0) dX6_readFrom_60 rfl rfl ?_
    refine Z.getR (pc := 61) dX6_readFrom_61 zf_X6_9 rfl rfl ?_
    refine Z.iload_n (pc := 64) (i := 2) dX6_readFrom_64 rfl rfl ?_
    refine Z.aload_n (pc := 65) (i := 1) dX6_readFrom_65 rfl rfl ?_
    refine Z.iload_n (pc := 66) (i := 3) dX6_readFrom_66 rfl rfl ?_
    refine Z.callVi (pc := 67) dX6_readFrom_67 (c_X4_at (by exact hl) hl36 _ (by omega)) zm_X6_49 zv_X4_at rfl rfl rfl rfl (by decide) (by decide) (Nat.le_of_ble_eq_true rfl) ?_
    refine Z.top (show _ = h.1 2 (3 + 4 * i) from rfl) ?_
    refine Z.callSi (pc := 70) dX6_readFrom_70 (c_X3_ofLetter _) zm_X6_52 zs_X3_ofLetter rfl rfl (by decide) (by decide) (Nat.le_of_ble_eq_true rfl) ?_
    refine Z.top (show _ = pgK (h.1 2) i from rfl) ?_
    refine Z.iast (pc := 73) dX6_readFrom_73 rfl (by omega) (by decide) ?_
    rw [z_r3_1 (by decide) (by decide), rdR_s (pgK (h.1 2)) (h.1 4) i]
    refine Z.aload_n (pc := 74) (i := 0) dX6_readFrom_74 rfl rfl ?_
    refine Z.getR (pc := 75) dX6_readFrom_75 zf_X6_15 rfl rfl ?_
    refine Z.iload_n (pc := 78) (i := 2) dX6_readFrom_78 rfl rfl ?_
    refine Z.aload_n (pc := 79) (i := 1) dX6_readFrom_79 rfl rfl ?_
    refine Z.iload_n (pc := 80) (i := 3) dX6_readFrom_80 rfl rfl ?_
    refine Z.iconst (pc := 81) (v := (nI 1)) dX6_readFrom_81 (by decide) ?_
    refine Z.iadd (pc := 82) dX6_readFrom_82 ?_
    refine Z.top (nI_add _ _) ?_
    refine Z.callVi (pc := 83) dX6_readFrom_83 (c_X4_digitAt (by exact hl) hl36 _ (by omega)) zm_X6_36 zv_X4_digitAt rfl rfl rfl rfl (by decide) (by decide) (Nat.le_of_ble_eq_true rfl) ?_
    refine Z.top (show _ = pgS (h.1 2) i from rfl) ?_
    refine Z.iast (pc := 86) dX6_readFrom_86 rfl (by omega) (by decide) ?_
    rw [z_r3_2 (by decide), rdR_s (pgS (h.1 2)) (h.1 5) i]
    refine Z.aload_n (pc := 87) (i := 0) dX6_readFrom_87 rfl rfl ?_
    refine Z.getR (pc := 88) dX6_readFrom_88 zf_X6_18 rfl rfl ?_
    refine Z.iload_n (pc := 91) (i := 2) dX6_readFrom_91 rfl rfl ?_
    refine Z.aload_n (pc := 92) (i := 1) dX6_readFrom_92 rfl rfl ?_
    refine Z.iload_n (pc := 93) (i := 3) dX6_readFrom_93 rfl rfl ?_
    refine Z.iconst (pc := 94) (v := (nI 2)) dX6_readFrom_94 (by decide) ?_
    refine Z.iadd (pc := 95) dX6_readFrom_95 ?_
    refine Z.top (nI_add _ _) ?_
    refine Z.callVi (pc := 96) dX6_readFrom_96 (c_X4_at (by exact hl) hl36 _ (by omega)) zm_X6_49 zv_X4_at rfl rfl rfl rfl (by decide) (by decide) (Nat.le_of_ble_eq_true rfl) ?_
    refine Z.top (show _ = h.1 2 (3 + 4 * i + 2) from rfl) ?_
    refine Z.bipush (pc := 99) (v := (45)) dX6_readFrom_99 (by decide) ?_
    refine Z.icmp_ne (pc := 101) (tgt := 108) dX6_readFrom_101 (by decide) (fun c101 => ?_) (fun c101 => ?_)
    · refine Z.aload_n (pc := 108) (i := 1) dX6_readFrom_108 rfl rfl ?_
      refine Z.iload_n (pc := 109) (i := 3) dX6_readFrom_109 rfl rfl ?_
      refine Z.iconst (pc := 110) (v := (nI 2)) dX6_readFrom_110 (by decide) ?_
      refine Z.iadd (pc := 111) dX6_readFrom_111 ?_
      refine Z.top (nI_add _ _) ?_
      refine Z.callVi (pc := 112) dX6_readFrom_112 (c_X4_digitAt (by exact hl) hl36 _ (by omega)) zm_X6_36 zv_X4_digitAt rfl rfl rfl rfl (by decide) (by decide) (Nat.le_of_ble_eq_true rfl) ?_
      refine Z.top (show _ = h.1 2 (3 + 4 * i + 2) - 48 from rfl) ?_
      refine Z.top (x' := pgF (h.1 2) i) (by simp [pgF, c101]) ?_
      refine Z.iast (pc := 115) dX6_readFrom_115 rfl (by omega) (by decide) ?_
      rw [z_r3_3, rdR_s (pgF (h.1 2)) (h.1 6) i]
      refine Z.iinc (pc := 116) (i := 2) (v := (nI (i + 1))) dX6_readFrom_116 rfl (by exact ii_1 i) (by decide) rfl ?_
      refine Z.goto (pc := 119) (tgt := 41) dX6_readFrom_119 (by decide) ?_
      refine Z.drop 3 ?_
      exact ih (i + 1) (by omega)
    · refine Z.iconst (pc := 104) (v := (-1)) dX6_readFrom_104 (by decide) ?_
      refine Z.goto (pc := 105) (tgt := 115) dX6_readFrom_105 (by decide) ?_
      refine Z.top (x' := pgF (h.1 2) i) (by simp [pgF, c101]) ?_
      refine Z.iast (pc := 115) dX6_readFrom_115 rfl (by omega) (by decide) ?_
      rw [z_r3_3, rdR_s (pgF (h.1 2)) (h.1 6) i]
      refine Z.iinc (pc := 116) (i := 2) (v := (nI (i + 1))) dX6_readFrom_116 rfl (by exact ii_1 i) (by decide) rfl ?_
      refine Z.goto (pc := 119) (tgt := 41) dX6_readFrom_119 (by decide) ?_
      refine Z.drop 3 ?_
      exact ih (i + 1) (by omega)
set_option maxRecDepth 100000 in
set_option maxHeartbeats 400000 in
theorem c_X6_readFrom {h : hp} {len n : Nat} (hl : h.1 1 1 = nI len) (hl36 : len ≤ 36) (hn : len = 4 * n + 2) (hn8 : n ≤ 8) (hn1 : 1 ≤ n)  : Cn yX6_readFrom cX6_readFrom 4 none 5 [.ref 3, .ref 1] h (z_eq none (rdH h n)) := by
  refine Cn.of (by decide) (Nat.le_of_ble_eq_true rfl) ?_
  refine Z.eqL (lv' := [(0, .ref 3), (1, .ref 1)]) rfl ?_
  refine Z.aload_n (pc := 0) (i := 0) dX6_readFrom_0 rfl rfl ?_
  refine Z.aload_n (pc := 1) (i := 1) dX6_readFrom_1 rfl rfl ?_
  refine Z.callVi (pc := 2) dX6_readFrom_2 (c_X4_guests hl hl36 (by omega)) zm_X6_21 zv_X4_guests rfl rfl rfl rfl (by decide) (by decide) (Nat.le_of_ble_eq_true rfl) ?_
  refine Z.top (congrArg nI (show (len - 2) / 4 = n by omega)) ?_
  refine Z.putI (pc := 5) dX6_readFrom_5 zp_X6_27 rfl rfl rfl rfl ?_
  refine Z.aload_n (pc := 8) (i := 0) dX6_readFrom_8 rfl rfl ?_
  refine Z.aload_n (pc := 9) (i := 0) dX6_readFrom_9 rfl rfl ?_
  refine Z.callVi (pc := 10) dX6_readFrom_10 (c_X6_everyone0 (Or.inl rfl) (by exact rfl) hn8) zm_X6_30 zv_X6_everyone rfl rfl rfl rfl (by decide) (by decide) (Nat.le_of_ble_eq_true rfl) ?_
  refine Z.putI (pc := 13) dX6_readFrom_13 zp_X6_33 rfl rfl rfl rfl ?_
  refine Z.aload_n (pc := 16) (i := 0) dX6_readFrom_16 rfl rfl ?_
  refine Z.bipush (pc := 17) (v := (10)) dX6_readFrom_17 (by decide) ?_
  refine Z.aload_n (pc := 19) (i := 1) dX6_readFrom_19 rfl rfl ?_
  refine Z.iconst (pc := 20) (v := (nI 0)) dX6_readFrom_20 (by decide) ?_
  refine Z.callVi (pc := 21) dX6_readFrom_21 (c_X4_digitAt (by exact hl) hl36 _ (by omega)) zm_X6_36 zv_X4_digitAt rfl rfl rfl rfl (by decide) (by decide) (Nat.le_of_ble_eq_true rfl) ?_
  refine Z.top (show _ = h.1 2 0 - 48 from rfl) ?_
  refine Z.imul (pc := 24) dX6_readFrom_24 ?_
  refine Z.aload_n (pc := 25) (i := 1) dX6_readFrom_25 rfl rfl ?_
  refine Z.iconst (pc := 26) (v := (nI 1)) dX6_readFrom_26 (by decide) ?_
  refine Z.callVi (pc := 27) dX6_readFrom_27 (c_X4_digitAt (by exact hl) hl36 _ (by omega)) zm_X6_36 zv_X4_digitAt rfl rfl rfl rfl (by decide) (by decide) (Nat.le_of_ble_eq_true rfl) ?_
  refine Z.top (show _ = h.1 2 1 - 48 from rfl) ?_
  refine Z.iadd (pc := 30) dX6_readFrom_30 ?_
  refine Z.top (show _ = pgD (h.1 2) from rfl) ?_
  refine Z.putI (pc := 31) dX6_readFrom_31 zp_X6_40 rfl rfl rfl rfl ?_
  refine Z.aload_n (pc := 34) (i := 0) dX6_readFrom_34 rfl rfl ?_
  refine Z.iconst (pc := 35) (v := (0)) dX6_readFrom_35 (by decide) ?_
  refine Z.putI (pc := 36) dX6_readFrom_36 zp_X6_43 rfl rfl rfl rfl ?_
  refine Z.iconst (pc := 39) (v := (nI 0)) dX6_readFrom_39 (by decide) ?_
  refine Z.istore_n (pc := 40) (i := 2) dX6_readFrom_40 rfl (by decide) rfl ?_
  have e := l_X6_readFrom hl hl36 hn hn8 n 0 (by omega)
  rw [rdR_0, rdR_0, rdR_0] at e
  have e2 : z_r3 (rdB h n) 4 (h.1 4) 5 (h.1 5) 6 (h.1 6) = rdB h n := by
    unfold z_r3
    rw [show h.1 4 = (rdB h n).1 4 from rfl, z_row_id, show h.1 5 = (rdB h n).1 5 from rfl, z_row_id, show h.1 6 = (rdB h n).1 6 from rfl, z_row_id]
  rw [e2] at e
  exact e
set_option maxRecDepth 100000 in
set_option maxHeartbeats 400000 in
theorem c_X7_add {h : hp} {sz : Nat} (hz : h.1 7 3 = nI sz) (hz6 : sz ≤ 6) (g ot : Int32) (b : Bool) (hlt : sz < 6)  : Cn yX7_add cX7_add 4 (some .int) 0 [.ref 7, .int g, .int ot, .int (zb b)] h (z_eq (some (.int (nI (sz + 1)))) (z_up (z_up (z_up (z_up h 8 sz g) 9 sz ot) 10 sz (zb b)) 7 3 (nI (sz + 1)))) := by
  refine Cn.of (by decide) (Nat.le_of_ble_eq_true rfl) ?_
  refine Z.eqL (lv' := [(0, .ref 7), (1, .int g), (2, .int ot), (3, .int (zb b))]) rfl ?_
  refine Z.aload_n (pc := 0) (i := 0) dX7_add_0 rfl rfl ?_
  refine Z.getIv (pc := 1) dX7_add_1 zf_X7_22 rfl rfl hz ?_
  refine Z.bipush (pc := 4) (v := (nI 6)) dX7_add_4 (by decide) ?_
  refine Z.icmp_ge_f (pc := 6) (tgt := 49) dX7_add_6 (by decide) (nI_ge hlt (by decide)) ?_
  refine Z.aload_n (pc := 9) (i := 0) dX7_add_9 rfl rfl ?_
  refine Z.getR (pc := 10) dX7_add_10 zf_X7_9 rfl rfl ?_
  refine Z.aload_n (pc := 13) (i := 0) dX7_add_13 rfl rfl ?_
  refine Z.getIv (pc := 14) dX7_add_14 zf_X7_22 rfl rfl hz ?_
  refine Z.iload_n (pc := 17) (i := 1) dX7_add_17 rfl rfl ?_
  refine Z.iast (pc := 18) dX7_add_18 rfl hlt (by decide) ?_
  refine Z.aload_n (pc := 19) (i := 0) dX7_add_19 rfl rfl ?_
  refine Z.getR (pc := 20) dX7_add_20 zf_X7_15 rfl rfl ?_
  refine Z.aload_n (pc := 23) (i := 0) dX7_add_23 rfl rfl ?_
  refine Z.getIv (pc := 24) dX7_add_24 zf_X7_22 rfl rfl (show _ = nI sz from hz) ?_
  refine Z.iload_n (pc := 27) (i := 2) dX7_add_27 rfl rfl ?_
  refine Z.iast (pc := 28) dX7_add_28 rfl hlt (by decide) ?_
  refine Z.aload_n (pc := 29) (i := 0) dX7_add_29 rfl rfl ?_
  refine Z.getR (pc := 30) dX7_add_30 zf_X7_18 rfl rfl ?_
  refine Z.aload_n (pc := 33) (i := 0) dX7_add_33 rfl rfl ?_
  refine Z.getIv (pc := 34) dX7_add_34 zf_X7_22 rfl rfl (show _ = nI sz from hz) ?_
  refine Z.iload_n (pc := 37) (i := 3) dX7_add_37 rfl rfl ?_
  refine Z.zast (pc := 38) dX7_add_38 rfl hlt (by decide) ?_
  rw [nar_zb]
  refine Z.aload_n (pc := 39) (i := 0) dX7_add_39 rfl rfl ?_
  refine Z.dup (pc := 40) dX7_add_40 rfl ?_
  refine Z.getIv (pc := 41) dX7_add_41 zf_X7_22 rfl rfl (show _ = nI sz from hz) ?_
  refine Z.iconst (pc := 44) (v := (1)) dX7_add_44 (by decide) ?_
  refine Z.iadd (pc := 45) dX7_add_45 ?_
  refine Z.top (nI_1 sz) ?_
  refine Z.putI (pc := 46) dX7_add_46 zp_X7_22 rfl rfl rfl rfl ?_
  refine Z.aload_n (pc := 49) (i := 0) dX7_add_49 rfl rfl ?_
  refine Z.getIv (pc := 50) dX7_add_50 zf_X7_22 rfl rfl (z_up_at _ _ _ _) ?_
  refine Z.iret (pc := 53) (ty := .int) dX7_add_53 rfl rfl ?_
  exact ⟨rfl, rfl⟩
set_option maxRecDepth 100000 in
set_option maxHeartbeats 400000 in
theorem c_X7_clear {h : hp} {sz : Nat} (hz : h.1 7 3 = nI sz) (hz6 : sz ≤ 6)  : Cn yX7_clear cX7_clear 2 (some .int) 0 [.ref 7] h (z_eq (some (.int (nI sz))) (z_up h 7 3 0)) := by
  refine Cn.of (by decide) (Nat.le_of_ble_eq_true rfl) ?_
  refine Z.eqL (lv' := [(0, .ref 7)]) rfl ?_
  refine Z.aload_n (pc := 0) (i := 0) dX7_clear_0 rfl rfl ?_
  refine Z.getIv (pc := 1) dX7_clear_1 zf_X7_22 rfl rfl hz ?_
  refine Z.istore_n (pc := 4) (i := 1) dX7_clear_4 rfl (by decide) rfl ?_
  refine Z.aload_n (pc := 5) (i := 0) dX7_clear_5 rfl rfl ?_
  refine Z.iconst (pc := 6) (v := (0)) dX7_clear_6 (by decide) ?_
  refine Z.putI (pc := 7) dX7_clear_7 zp_X7_22 rfl rfl rfl rfl ?_
  refine Z.iload_n (pc := 10) (i := 1) dX7_clear_10 rfl rfl ?_
  refine Z.iret (pc := 11) (ty := .int) dX7_clear_11 rfl rfl ?_
  exact ⟨rfl, rfl⟩
set_option maxRecDepth 100000 in
set_option maxHeartbeats 400000 in
theorem l_X7_copyFrom_15 {h : hp} (hb : ∀ i, i < 6 → vp_nar .boolean (h.1 10 i) = h.1 10 i) : ∀ (r i : Nat) , i + r = 6 → Z yX7_copyFrom cX7_copyFrom 3 none 0 (z_eq none ((z_r3 (z_up h 15 3 (h.1 7 3)) 16 (rdR (h.1 8) (h.1 16) 6) 17 (rdR (h.1 9) (h.1 17) 6) 18 (rdR (h.1 10) (h.1 18) 6)))) 10 [(0, .ref 15), (1, .ref 7), (2, .int (nI i))] [] (z_r3 (z_up h 15 3 (h.1 7 3)) 16 (rdR (h.1 8) (h.1 16) i) 17 (rdR (h.1 9) (h.1 17) i) 18 (rdR (h.1 10) (h.1 18) i)) := by
  intro r
  induction r with
  | zero =>
    intro i hi
    obtain rfl : 6 = i := by omega
    refine Z.iload_n (pc := 10) (i := 2) dX7_copyFrom_10 rfl rfl ?_
    refine Z.bipush (pc := 11) (v := (nI 6)) dX7_copyFrom_11 (by decide) ?_
    refine Z.icmp_ge_t (pc := 13) (tgt := 58) dX7_copyFrom_13 (by decide) (nI_le (Nat.le_refl 6) (by decide)) ?_
    refine Z.vret (pc := 58) dX7_copyFrom_58 rfl ?_
    exact ⟨rfl, rfl⟩
  | succ r ih =>
    intro i hi
    refine Z.iload_n (pc := 10) (i := 2) dX7_copyFrom_10 rfl rfl ?_
    refine Z.bipush (pc := 11) (v := (nI 6)) dX7_copyFrom_11 (by decide) ?_
    refine Z.icmp_ge_f (pc := 13) (tgt := 58) dX7_copyFrom_13 (by decide) (nI_ge (by omega) (by decide)) ?_
    refine Z.aload_n (pc := 16) (i := 0) dX7_copyFrom_16 rfl rfl ?_
    refine Z.getR (pc := 17) dX7_copyFrom_17 zf_X7_9 rfl rfl ?_
    refine Z.iload_n (pc := 20) (i := 2) dX7_copyFrom_20 rfl rfl ?_
    refine Z.aload_n (pc := 21) (i := 1) dX7_copyFrom_21 rfl rfl ?_
    refine Z.getR (pc := 22) dX7_copyFrom_22 zf_X7_9 rfl rfl ?_
    refine Z.iload_n (pc := 25) (i := 2) dX7_copyFrom_25 rfl rfl ?_
    refine Z.iald (pc := 26) dX7_copyFrom_26 rfl (by omega) (by decide) ?_
    refine Z.top (show _ = h.1 8 i from rfl) ?_
    refine Z.iast (pc := 27) dX7_copyFrom_27 rfl (by omega) (by decide) ?_
    rw [z_r3_1 (by decide) (by decide), rdR_s (h.1 8) (h.1 16) i]
    refine Z.aload_n (pc := 28) (i := 0) dX7_copyFrom_28 rfl rfl ?_
    refine Z.getR (pc := 29) dX7_copyFrom_29 zf_X7_15 rfl rfl ?_
    refine Z.iload_n (pc := 32) (i := 2) dX7_copyFrom_32 rfl rfl ?_
    refine Z.aload_n (pc := 33) (i := 1) dX7_copyFrom_33 rfl rfl ?_
    refine Z.getR (pc := 34) dX7_copyFrom_34 zf_X7_15 rfl rfl ?_
    refine Z.iload_n (pc := 37) (i := 2) dX7_copyFrom_37 rfl rfl ?_
    refine Z.iald (pc := 38) dX7_copyFrom_38 rfl (by omega) (by decide) ?_
    refine Z.top (show _ = h.1 9 i from rfl) ?_
    refine Z.iast (pc := 39) dX7_copyFrom_39 rfl (by omega) (by decide) ?_
    rw [z_r3_2 (by decide), rdR_s (h.1 9) (h.1 17) i]
    refine Z.aload_n (pc := 40) (i := 0) dX7_copyFrom_40 rfl rfl ?_
    refine Z.getR (pc := 41) dX7_copyFrom_41 zf_X7_18 rfl rfl ?_
    refine Z.iload_n (pc := 44) (i := 2) dX7_copyFrom_44 rfl rfl ?_
    refine Z.aload_n (pc := 45) (i := 1) dX7_copyFrom_45 rfl rfl ?_
    refine Z.getR (pc := 46) dX7_copyFrom_46 zf_X7_18 rfl rfl ?_
    refine Z.iload_n (pc := 49) (i := 2) dX7_copyFrom_49 rfl rfl ?_
    refine Z.zald (pc := 50) dX7_copyFrom_50 rfl (by omega) (by decide) ?_
    refine Z.top (show _ = h.1 10 i from rfl) ?_
    refine Z.zast (pc := 51) dX7_copyFrom_51 rfl (by omega) (by decide) ?_
    rw [hb i (by omega), z_r3_3, rdR_s (h.1 10) (h.1 18) i]
    refine Z.iinc (pc := 52) (i := 2) (v := (nI (i + 1))) dX7_copyFrom_52 rfl (by exact ii_1 i) (by decide) rfl ?_
    refine Z.goto (pc := 55) (tgt := 10) dX7_copyFrom_55 (by decide) ?_
    exact ih (i + 1) (by omega)
set_option maxRecDepth 100000 in
set_option maxHeartbeats 400000 in
theorem c_X7_copyFrom_15_7 {h : hp} (hb : ∀ i, i < 6 → vp_nar .boolean (h.1 10 i) = h.1 10 i)  : Cn yX7_copyFrom cX7_copyFrom 3 none 0 [.ref 15, .ref 7] h (z_eq none ((z_r3 (z_up h 15 3 (h.1 7 3)) 16 (rdR (h.1 8) (h.1 16) 6) 17 (rdR (h.1 9) (h.1 17) 6) 18 (rdR (h.1 10) (h.1 18) 6)))) := by
  refine Cn.of (by decide) (Nat.le_of_ble_eq_true rfl) ?_
  refine Z.eqL (lv' := [(0, .ref 15), (1, .ref 7)]) rfl ?_
  refine Z.aload_n (pc := 0) (i := 0) dX7_copyFrom_0 rfl rfl ?_
  refine Z.aload_n (pc := 1) (i := 1) dX7_copyFrom_1 rfl rfl ?_
  refine Z.getI (pc := 2) dX7_copyFrom_2 zf_X7_22 rfl rfl ?_
  refine Z.putI (pc := 5) dX7_copyFrom_5 zp_X7_22 rfl rfl rfl rfl ?_
  refine Z.iconst (pc := 8) (v := (nI 0)) dX7_copyFrom_8 (by decide) ?_
  refine Z.istore_n (pc := 9) (i := 2) dX7_copyFrom_9 rfl (by decide) rfl ?_
  have e := l_X7_copyFrom_15 hb 6 0 rfl
  rw [rdR_0, rdR_0, rdR_0] at e
  have e2 : z_r3 (z_up h 15 3 (h.1 7 3)) 16 (h.1 16) 17 (h.1 17) 18 (h.1 18) = z_up h 15 3 (h.1 7 3) := by
    unfold z_r3
    rw [show h.1 16 = (z_up h 15 3 (h.1 7 3)).1 16 from rfl, z_row_id, show h.1 17 = (z_up h 15 3 (h.1 7 3)).1 17 from rfl, z_row_id, show h.1 18 = (z_up h 15 3 (h.1 7 3)).1 18 from rfl, z_row_id]
  rw [e2] at e
  exact e
set_option maxRecDepth 100000 in
set_option maxHeartbeats 400000 in
theorem l_X7_copyFrom_7 {h : hp} (hb : ∀ i, i < 6 → vp_nar .boolean (h.1 18 i) = h.1 18 i) : ∀ (r i : Nat) , i + r = 6 → Z yX7_copyFrom cX7_copyFrom 3 none 0 (z_eq none ((z_r3 (z_up h 7 3 (h.1 15 3)) 8 (rdR (h.1 16) (h.1 8) 6) 9 (rdR (h.1 17) (h.1 9) 6) 10 (rdR (h.1 18) (h.1 10) 6)))) 10 [(0, .ref 7), (1, .ref 15), (2, .int (nI i))] [] (z_r3 (z_up h 7 3 (h.1 15 3)) 8 (rdR (h.1 16) (h.1 8) i) 9 (rdR (h.1 17) (h.1 9) i) 10 (rdR (h.1 18) (h.1 10) i)) := by
  intro r
  induction r with
  | zero =>
    intro i hi
    obtain rfl : 6 = i := by omega
    refine Z.iload_n (pc := 10) (i := 2) dX7_copyFrom_10 rfl rfl ?_
    refine Z.bipush (pc := 11) (v := (nI 6)) dX7_copyFrom_11 (by decide) ?_
    refine Z.icmp_ge_t (pc := 13) (tgt := 58) dX7_copyFrom_13 (by decide) (nI_le (Nat.le_refl 6) (by decide)) ?_
    refine Z.vret (pc := 58) dX7_copyFrom_58 rfl ?_
    exact ⟨rfl, rfl⟩
  | succ r ih =>
    intro i hi
    refine Z.iload_n (pc := 10) (i := 2) dX7_copyFrom_10 rfl rfl ?_
    refine Z.bipush (pc := 11) (v := (nI 6)) dX7_copyFrom_11 (by decide) ?_
    refine Z.icmp_ge_f (pc := 13) (tgt := 58) dX7_copyFrom_13 (by decide) (nI_ge (by omega) (by decide)) ?_
    refine Z.aload_n (pc := 16) (i := 0) dX7_copyFrom_16 rfl rfl ?_
    refine Z.getR (pc := 17) dX7_copyFrom_17 zf_X7_9 rfl rfl ?_
    refine Z.iload_n (pc := 20) (i := 2) dX7_copyFrom_20 rfl rfl ?_
    refine Z.aload_n (pc := 21) (i := 1) dX7_copyFrom_21 rfl rfl ?_
    refine Z.getR (pc := 22) dX7_copyFrom_22 zf_X7_9 rfl rfl ?_
    refine Z.iload_n (pc := 25) (i := 2) dX7_copyFrom_25 rfl rfl ?_
    refine Z.iald (pc := 26) dX7_copyFrom_26 rfl (by omega) (by decide) ?_
    refine Z.top (show _ = h.1 16 i from rfl) ?_
    refine Z.iast (pc := 27) dX7_copyFrom_27 rfl (by omega) (by decide) ?_
    rw [z_r3_1 (by decide) (by decide), rdR_s (h.1 16) (h.1 8) i]
    refine Z.aload_n (pc := 28) (i := 0) dX7_copyFrom_28 rfl rfl ?_
    refine Z.getR (pc := 29) dX7_copyFrom_29 zf_X7_15 rfl rfl ?_
    refine Z.iload_n (pc := 32) (i := 2) dX7_copyFrom_32 rfl rfl ?_
    refine Z.aload_n (pc := 33) (i := 1) dX7_copyFrom_33 rfl rfl ?_
    refine Z.getR (pc := 34) dX7_copyFrom_34 zf_X7_15 rfl rfl ?_
    refine Z.iload_n (pc := 37) (i := 2) dX7_copyFrom_37 rfl rfl ?_
    refine Z.iald (pc := 38) dX7_copyFrom_38 rfl (by omega) (by decide) ?_
    refine Z.top (show _ = h.1 17 i from rfl) ?_
    refine Z.iast (pc := 39) dX7_copyFrom_39 rfl (by omega) (by decide) ?_
    rw [z_r3_2 (by decide), rdR_s (h.1 17) (h.1 9) i]
    refine Z.aload_n (pc := 40) (i := 0) dX7_copyFrom_40 rfl rfl ?_
    refine Z.getR (pc := 41) dX7_copyFrom_41 zf_X7_18 rfl rfl ?_
    refine Z.iload_n (pc := 44) (i := 2) dX7_copyFrom_44 rfl rfl ?_
    refine Z.aload_n (pc := 45) (i := 1) dX7_copyFrom_45 rfl rfl ?_
    refine Z.getR (pc := 46) dX7_copyFrom_46 zf_X7_18 rfl rfl ?_
    refine Z.iload_n (pc := 49) (i := 2) dX7_copyFrom_49 rfl rfl ?_
    refine Z.zald (pc := 50) dX7_copyFrom_50 rfl (by omega) (by decide) ?_
    refine Z.top (show _ = h.1 18 i from rfl) ?_
    refine Z.zast (pc := 51) dX7_copyFrom_51 rfl (by omega) (by decide) ?_
    rw [hb i (by omega), z_r3_3, rdR_s (h.1 18) (h.1 10) i]
    refine Z.iinc (pc := 52) (i := 2) (v := (nI (i + 1))) dX7_copyFrom_52 rfl (by exact ii_1 i) (by decide) rfl ?_
    refine Z.goto (pc := 55) (tgt := 10) dX7_copyFrom_55 (by decide) ?_
    exact ih (i + 1) (by omega)
set_option maxRecDepth 100000 in
set_option maxHeartbeats 400000 in
theorem c_X7_copyFrom_7_15 {h : hp} (hb : ∀ i, i < 6 → vp_nar .boolean (h.1 18 i) = h.1 18 i)  : Cn yX7_copyFrom cX7_copyFrom 3 none 0 [.ref 7, .ref 15] h (z_eq none ((z_r3 (z_up h 7 3 (h.1 15 3)) 8 (rdR (h.1 16) (h.1 8) 6) 9 (rdR (h.1 17) (h.1 9) 6) 10 (rdR (h.1 18) (h.1 10) 6)))) := by
  refine Cn.of (by decide) (Nat.le_of_ble_eq_true rfl) ?_
  refine Z.eqL (lv' := [(0, .ref 7), (1, .ref 15)]) rfl ?_
  refine Z.aload_n (pc := 0) (i := 0) dX7_copyFrom_0 rfl rfl ?_
  refine Z.aload_n (pc := 1) (i := 1) dX7_copyFrom_1 rfl rfl ?_
  refine Z.getI (pc := 2) dX7_copyFrom_2 zf_X7_22 rfl rfl ?_
  refine Z.putI (pc := 5) dX7_copyFrom_5 zp_X7_22 rfl rfl rfl rfl ?_
  refine Z.iconst (pc := 8) (v := (nI 0)) dX7_copyFrom_8 (by decide) ?_
  refine Z.istore_n (pc := 9) (i := 2) dX7_copyFrom_9 rfl (by decide) rfl ?_
  have e := l_X7_copyFrom_7 hb 6 0 rfl
  rw [rdR_0, rdR_0, rdR_0] at e
  have e2 : z_r3 (z_up h 7 3 (h.1 15 3)) 8 (h.1 8) 9 (h.1 9) 10 (h.1 10) = z_up h 7 3 (h.1 15 3) := by
    unfold z_r3
    rw [show h.1 8 = (z_up h 7 3 (h.1 15 3)).1 8 from rfl, z_row_id, show h.1 9 = (z_up h 7 3 (h.1 15 3)).1 9 from rfl, z_row_id, show h.1 10 = (z_up h 7 3 (h.1 15 3)).1 10 from rfl, z_row_id]
  rw [e2] at e
  exact e
set_option maxRecDepth 100000 in
set_option maxHeartbeats 400000 in
theorem l_X7_shynessThatGoes {h : hp} (k ot : Int32) (hk : okK k) : ∀ (r i : Nat) (a : Nat), i + r = 10 → a = orb (fun a => decide (ndsI k (nI a) ≤ ot)) i → Z yX7_shynessThatGoes cX7_shynessThatGoes 4 (some .int) 1 (z_eq (some (.int (nI (stg k ot)))) h) 4 [(0, .int k), (1, .int ot), (2, .int (nI a)), (3, .int (nI i))] [] h := by
  intro r
  induction r with
  | zero =>
    intro i a hi ha
    obtain rfl : 10 = i := by omega
    refine Z.iload_n (pc := 4) (i := 3) dX7_shynessThatGoes_4 rfl rfl ?_
    refine Z.bipush (pc := 5) (v := (nI 9)) dX7_shynessThatGoes_5 (by decide) ?_
    refine Z.icmp_gt_t (pc := 7) (tgt := 31) dX7_shynessThatGoes_7 (by decide) (nI_lt (by omega) (by omega)) ?_
    refine Z.iload_n (pc := 31) (i := 2) dX7_shynessThatGoes_31 rfl rfl ?_
    refine Z.iret (pc := 32) (ty := .int) dX7_shynessThatGoes_32 rfl rfl ?_
    exact ⟨by rw [ha]; rfl, rfl⟩
  | succ r ih =>
    intro i a hi ha
    refine Z.iload_n (pc := 4) (i := 3) dX7_shynessThatGoes_4 rfl rfl ?_
    refine Z.bipush (pc := 5) (v := (nI 9)) dX7_shynessThatGoes_5 (by decide) ?_
    refine Z.icmp_gt_f (pc := 7) (tgt := 31) dX7_shynessThatGoes_7 (by decide) (nI_nlt (by omega) (by decide)) ?_
    refine Z.iload_n (pc := 10) (i := 0) dX7_shynessThatGoes_10 rfl rfl ?_
    refine Z.iload_n (pc := 11) (i := 3) dX7_shynessThatGoes_11 rfl rfl ?_
    refine Z.callSi (pc := 12) dX7_shynessThatGoes_12 (c_X3_needs k _ hk) zm_X7_41 zs_X3_needs rfl rfl (by decide) (by decide) (Nat.le_of_ble_eq_true rfl) ?_
    refine Z.iload_n (pc := 15) (i := 1) dX7_shynessThatGoes_15 rfl rfl ?_
    refine Z.icmp_gt (pc := 16) (tgt := 25) dX7_shynessThatGoes_16 (by decide) (fun c16 => ?_) (fun c16 => ?_)
    · refine Z.iinc (pc := 25) (i := 3) (v := (nI (i + 1))) dX7_shynessThatGoes_25 rfl (by exact ii_1 i) (by decide) rfl ?_
      refine Z.goto (pc := 28) (tgt := 4) dX7_shynessThatGoes_28 (by decide) ?_
      refine ih (i + 1) _ (by omega) ?_
      first
        | (refine orb_f ha ?_; simp [lt_nle c16]; done)
        | (refine orb_t ha ?_; simp [nlt c16]; done)
    · refine Z.iload_n (pc := 19) (i := 2) dX7_shynessThatGoes_19 rfl rfl ?_
      refine Z.iconst (pc := 20) (v := (nI 1)) dX7_shynessThatGoes_20 (by decide) ?_
      refine Z.iload_n (pc := 21) (i := 3) dX7_shynessThatGoes_21 rfl rfl ?_
      refine Z.ishl (pc := 22) dX7_shynessThatGoes_22 ?_
      refine Z.top (nb_shl (by omega)) ?_
      refine Z.ior (pc := 23) dX7_shynessThatGoes_23 ?_
      refine Z.top (nb_or _ _) ?_
      refine Z.istore_n (pc := 24) (i := 2) dX7_shynessThatGoes_24 rfl (by decide) rfl ?_
      refine Z.iinc (pc := 25) (i := 3) (v := (nI (i + 1))) dX7_shynessThatGoes_25 rfl (by exact ii_1 i) (by decide) rfl ?_
      refine Z.goto (pc := 28) (tgt := 4) dX7_shynessThatGoes_28 (by decide) ?_
      refine ih (i + 1) _ (by omega) ?_
      first
        | (refine orb_f ha ?_; simp [lt_nle c16]; done)
        | (refine orb_t ha ?_; simp [nlt c16]; done)
set_option maxRecDepth 100000 in
set_option maxHeartbeats 400000 in
theorem c_X7_shynessThatGoes {h : hp} (k ot : Int32) (hk : okK k)  : Cn yX7_shynessThatGoes cX7_shynessThatGoes 4 (some .int) 1 [.int k, .int ot] h (z_eq (some (.int (nI (stg k ot)))) h) := by
  refine Cn.of (by decide) (Nat.le_of_ble_eq_true rfl) ?_
  refine Z.eqL (lv' := [(0, .int k), (1, .int ot)]) rfl ?_
  refine Z.iconst (pc := 0) (v := (nI 0)) dX7_shynessThatGoes_0 (by decide) ?_
  refine Z.istore_n (pc := 1) (i := 2) dX7_shynessThatGoes_1 rfl (by decide) rfl ?_
  refine Z.iconst (pc := 2) (v := (nI 0)) dX7_shynessThatGoes_2 (by decide) ?_
  refine Z.istore_n (pc := 3) (i := 3) dX7_shynessThatGoes_3 rfl (by decide) rfl ?_
  exact l_X7_shynessThatGoes k ot hk 10 0 0 rfl rfl
set_option maxRecDepth 100000 in
set_option maxHeartbeats 400000 in
theorem l_X7_shynessOf {h : hp} {sz : Nat} (hz : h.1 7 3 = nI sz) (hz6 : sz ≤ 6) (g k : Int32) (hk : okK k) : ∀ (r i : Nat) , i + r = sz → Z yX7_shynessOf cX7_shynessOf 6 (some .int) 2 (z_eq (some (.int (nI (shF (h.1 8) (h.1 9) (h.1 10) g k sz)))) h) 7 [(0, .ref 7), (1, .int g), (2, .int k), (3, .int (nI (shF (h.1 8) (h.1 9) (h.1 10) g k i))), (4, .int (nI i))] [] h := by
  intro r
  induction r with
  | zero =>
    intro i hi
    obtain rfl : sz = i := by omega
    refine Z.iload (pc := 7) (i := 4) dX7_shynessOf_7 rfl ?_
    refine Z.aload_n (pc := 9) (i := 0) dX7_shynessOf_9 rfl rfl ?_
    refine Z.getIv (pc := 10) dX7_shynessOf_10 zf_X7_22 rfl rfl hz ?_
    refine Z.icmp_ge_t (pc := 13) (tgt := 75) dX7_shynessOf_13 (by decide) (nI_le (Nat.le_refl _) (by omega)) ?_
    refine Z.iload_n (pc := 75) (i := 3) dX7_shynessOf_75 rfl rfl ?_
    refine Z.iret (pc := 76) (ty := .int) dX7_shynessOf_76 rfl rfl ?_
    exact ⟨rfl, rfl⟩
  | succ r ih =>
    intro i hi
    refine Z.iload (pc := 7) (i := 4) dX7_shynessOf_7 rfl ?_
    refine Z.aload_n (pc := 9) (i := 0) dX7_shynessOf_9 rfl rfl ?_
    refine Z.getIv (pc := 10) dX7_shynessOf_10 zf_X7_22 rfl rfl hz ?_
    refine Z.icmp_ge_f (pc := 13) (tgt := 75) dX7_shynessOf_13 (by decide) (nI_ge (by omega) (by omega)) ?_
    refine Z.iload (pc := 16) (i := 4) dX7_shynessOf_16 rfl ?_
    refine Z.bipush (pc := 18) (v := (nI 6)) dX7_shynessOf_18 (by decide) ?_
    refine Z.icmp_ge_f (pc := 20) (tgt := 75) dX7_shynessOf_20 (by decide) (nI_ge (by omega) (by decide)) ?_
    refine Z.aload_n (pc := 23) (i := 0) dX7_shynessOf_23 rfl rfl ?_
    refine Z.getR (pc := 24) dX7_shynessOf_24 zf_X7_9 rfl rfl ?_
    refine Z.iload (pc := 27) (i := 4) dX7_shynessOf_27 rfl ?_
    refine Z.iald (pc := 29) dX7_shynessOf_29 rfl (by omega) (by decide) ?_
    refine Z.iload_n (pc := 30) (i := 1) dX7_shynessOf_30 rfl rfl ?_
    refine Z.icmp_ne (pc := 31) (tgt := 69) dX7_shynessOf_31 (by decide) (fun c31 => ?_) (fun c31 => ?_)
    · have eS : shF (h.1 8) (h.1 9) (h.1 10) g k (i + 1) = shF (h.1 8) (h.1 9) (h.1 10) g k i := by simp [shF, c31]
      rw [← eS]
      refine Z.iinc (pc := 69) (i := 4) (v := (nI (i + 1))) dX7_shynessOf_69 rfl (by exact ii_1 i) (by decide) rfl ?_
      refine Z.goto (pc := 72) (tgt := 7) dX7_shynessOf_72 (by decide) ?_
      refine Z.drop 5 ?_
      exact ih (i + 1) (by omega)
    · refine Z.iload_n (pc := 34) (i := 2) dX7_shynessOf_34 rfl rfl ?_
      refine Z.aload_n (pc := 35) (i := 0) dX7_shynessOf_35 rfl rfl ?_
      refine Z.getR (pc := 36) dX7_shynessOf_36 zf_X7_15 rfl rfl ?_
      refine Z.iload (pc := 39) (i := 4) dX7_shynessOf_39 rfl ?_
      refine Z.iald (pc := 41) dX7_shynessOf_41 rfl (by omega) (by decide) ?_
      refine Z.callSi (pc := 42) dX7_shynessOf_42 (c_X7_shynessThatGoes k _ hk) zm_X7_26 zs_X7_shynessThatGoes rfl rfl (by decide) (by decide) (Nat.le_of_ble_eq_true rfl) ?_
      refine Z.istore (pc := 45) (i := 5) dX7_shynessOf_45 (by decide) rfl ?_
      refine Z.iload_n (pc := 47) (i := 3) dX7_shynessOf_47 rfl rfl ?_
      refine Z.aload_n (pc := 48) (i := 0) dX7_shynessOf_48 rfl rfl ?_
      refine Z.getR (pc := 49) dX7_shynessOf_49 zf_X7_18 rfl rfl ?_
      refine Z.iload (pc := 52) (i := 4) dX7_shynessOf_52 rfl ?_
      refine Z.zald (pc := 54) dX7_shynessOf_54 rfl (by omega) (by decide) ?_
      refine Z.if_eq (pc := 55) (tgt := 63) dX7_shynessOf_55 (by decide) (fun c55 => ?_) (fun c55 => ?_)
      · refine Z.iload (pc := 63) (i := 5) dX7_shynessOf_63 rfl ?_
        refine Z.iconst (pc := 65) (v := (-1)) dX7_shynessOf_65 (by decide) ?_
        refine Z.ixor (pc := 66) dX7_shynessOf_66 ?_
        refine Z.iand (pc := 67) dX7_shynessOf_67 ?_
        first | refine Z.top (nb_dif _ _) ?_ | refine Z.top (nb_and _ _) ?_
        refine Z.top (x' := nI (shF (h.1 8) (h.1 9) (h.1 10) g k (i + 1))) (congrArg nI (by simp [shF, c31, c55])) ?_
        refine Z.istore_n (pc := 68) (i := 3) dX7_shynessOf_68 rfl (by decide) rfl ?_
        refine Z.iinc (pc := 69) (i := 4) (v := (nI (i + 1))) dX7_shynessOf_69 rfl (by exact ii_1 i) (by decide) rfl ?_
        refine Z.goto (pc := 72) (tgt := 7) dX7_shynessOf_72 (by decide) ?_
        refine Z.drop 5 ?_
        exact ih (i + 1) (by omega)
      · refine Z.iload (pc := 58) (i := 5) dX7_shynessOf_58 rfl ?_
        refine Z.goto (pc := 60) (tgt := 67) dX7_shynessOf_60 (by decide) ?_
        refine Z.iand (pc := 67) dX7_shynessOf_67 ?_
        first | refine Z.top (nb_dif _ _) ?_ | refine Z.top (nb_and _ _) ?_
        refine Z.top (x' := nI (shF (h.1 8) (h.1 9) (h.1 10) g k (i + 1))) (congrArg nI (by simp [shF, c31, c55])) ?_
        refine Z.istore_n (pc := 68) (i := 3) dX7_shynessOf_68 rfl (by decide) rfl ?_
        refine Z.iinc (pc := 69) (i := 4) (v := (nI (i + 1))) dX7_shynessOf_69 rfl (by exact ii_1 i) (by decide) rfl ?_
        refine Z.goto (pc := 72) (tgt := 7) dX7_shynessOf_72 (by decide) ?_
        refine Z.drop 5 ?_
        exact ih (i + 1) (by omega)
set_option maxRecDepth 100000 in
set_option maxHeartbeats 400000 in
theorem c_X7_shynessOf {h : hp} {sz : Nat} (hz : h.1 7 3 = nI sz) (hz6 : sz ≤ 6) (g k : Int32) (hk : okK k)  : Cn yX7_shynessOf cX7_shynessOf 6 (some .int) 2 [.ref 7, .int g, .int k] h (z_eq (some (.int (nI (shF (h.1 8) (h.1 9) (h.1 10) g k sz)))) h) := by
  refine Cn.of (by decide) (Nat.le_of_ble_eq_true rfl) ?_
  refine Z.eqL (lv' := [(0, .ref 7), (1, .int g), (2, .int k)]) rfl ?_
  refine Z.sipush (pc := 0) (v := (nI 1023)) dX7_shynessOf_0 (by decide) ?_
  refine Z.istore_n (pc := 3) (i := 3) dX7_shynessOf_3 rfl (by decide) rfl ?_
  refine Z.iconst (pc := 4) (v := (nI 0)) dX7_shynessOf_4 (by decide) ?_
  refine Z.istore (pc := 5) (i := 4) dX7_shynessOf_5 (by decide) rfl ?_
  exact l_X7_shynessOf hz hz6 g k hk sz 0 (by omega)
set_option maxRecDepth 100000 in
set_option maxHeartbeats 400000 in
theorem l_X7_whatToAsk {h : hp} (k : Int32) (m : Nat) (hk : okK k) (hm : m < 1024) (hm0 : ¬ m = 0) : ∀ (r i : Nat) , i + r = 17 → Z yX7_whatToAsk cX7_whatToAsk 7 (some .int) 2 (z_eq (some (.int (askI k m))) h) 14 [(0, .int k), (1, .int (nI m)), (2, .int (asF k m i).1), (3, .int (nI (asF k m i).2)), (4, .int (nI i))] [] h := by
  intro r
  induction r with
  | zero =>
    intro i hi
    obtain rfl : 17 = i := by omega
    refine Z.iload (pc := 14) (i := 4) dX7_whatToAsk_14 rfl ?_
    refine Z.bipush (pc := 16) (v := (nI 16)) dX7_whatToAsk_16 (by decide) ?_
    refine Z.icmp_gt_t (pc := 18) (tgt := 68) dX7_whatToAsk_18 (by decide) (nI_lt (by omega) (by omega)) ?_
    refine Z.iload_n (pc := 68) (i := 2) dX7_whatToAsk_68 rfl rfl ?_
    refine Z.iret (pc := 69) (ty := .int) dX7_whatToAsk_69 rfl rfl ?_
    exact ⟨by simp [askI, hm0], rfl⟩
  | succ r ih =>
    intro i hi
    refine Z.iload (pc := 14) (i := 4) dX7_whatToAsk_14 rfl ?_
    refine Z.bipush (pc := 16) (v := (nI 16)) dX7_whatToAsk_16 (by decide) ?_
    refine Z.icmp_gt_f (pc := 18) (tgt := 68) dX7_whatToAsk_18 (by decide) (nI_nlt (by omega) (by decide)) ?_
    refine Z.iload_n (pc := 21) (i := 1) dX7_whatToAsk_21 rfl rfl ?_
    refine Z.iload_n (pc := 22) (i := 0) dX7_whatToAsk_22 rfl rfl ?_
    refine Z.iload (pc := 23) (i := 4) dX7_whatToAsk_23 rfl ?_
    refine Z.callSi (pc := 25) dX7_whatToAsk_25 (c_X7_shynessThatGoes k _ hk) zm_X7_26 zs_X7_shynessThatGoes rfl rfl (by decide) (by decide) (Nat.le_of_ble_eq_true rfl) ?_
    refine Z.iand (pc := 28) dX7_whatToAsk_28 ?_
    refine Z.top (nb_and _ _) ?_
    refine Z.istore (pc := 29) (i := 5) dX7_whatToAsk_29 (by decide) rfl ?_
    refine Z.iload (pc := 31) (i := 5) dX7_whatToAsk_31 rfl ?_
    refine Z.callSi (pc := 33) dX7_whatToAsk_33 (c_J6_bitCount_0f7a4 _ (and_lt (n := 10) hm)) zm_X7_30 zs_J6_bitCount_0f7a4 rfl rfl (by decide) (by decide) (Nat.le_of_ble_eq_true rfl) ?_
    refine Z.iload_n (pc := 36) (i := 1) dX7_whatToAsk_36 rfl rfl ?_
    refine Z.iload (pc := 37) (i := 5) dX7_whatToAsk_37 rfl ?_
    refine Z.iconst (pc := 39) (v := (-1)) dX7_whatToAsk_39 (by decide) ?_
    refine Z.ixor (pc := 40) dX7_whatToAsk_40 ?_
    refine Z.iand (pc := 41) dX7_whatToAsk_41 ?_
    refine Z.top (nb_dif _ _) ?_
    refine Z.callSi (pc := 42) dX7_whatToAsk_42 (c_J6_bitCount_0f7a4 _ (dif_lt (n := 10) hm)) zm_X7_30 zs_J6_bitCount_0f7a4 rfl rfl (by decide) (by decide) (Nat.le_of_ble_eq_true rfl) ?_
    refine Z.mmax (pc := 45) dX7_whatToAsk_45 zm_X7_36 (by decide) (Nat.le_of_ble_eq_true rfl) ?_
    refine Z.top ((max_nI (Nat.lt_of_le_of_lt (pop_le _) (by decide)) (Nat.lt_of_le_of_lt (pop_le _) (by decide))).trans (show _ = nI (asL k m i) from rfl)) ?_
    refine Z.istore (pc := 48) (i := 6) dX7_whatToAsk_48 (by decide) rfl ?_
    refine Z.iload (pc := 50) (i := 6) dX7_whatToAsk_50 rfl ?_
    refine Z.iload_n (pc := 52) (i := 3) dX7_whatToAsk_52 rfl rfl ?_
    refine Z.icmp_ge (pc := 53) (tgt := 62) dX7_whatToAsk_53 (by decide) (fun c53 => ?_) (fun c53 => ?_)
    · have q : ¬ asL k m i < (asF k m i).2 := fun q => nI_ge q (Nat.lt_of_le_of_lt (asF_le k m i) (by decide)) c53
      have eS : asF k m (i + 1) = asF k m i := by simp [asF, q]
      rw [← eS]
      refine Z.iinc (pc := 62) (i := 4) (v := (nI (i + 1))) dX7_whatToAsk_62 rfl (by exact ii_1 i) (by decide) rfl ?_
      refine Z.goto (pc := 65) (tgt := 14) dX7_whatToAsk_65 (by decide) ?_
      refine Z.drop 5 ?_
      refine Z.drop 6 ?_
      have e := ih (i + 1) (by omega)
      first | exact e | (rw [eS] at e; exact e)
    · have q : asL k m i < (asF k m i).2 := Nat.not_le.mp (fun q => c53 (nI_le q (Nat.lt_of_le_of_lt (asL_le k m i) (by decide))))
      have eS : asF k m (i + 1) = (nI i, asL k m i) := by simp [asF, q]
      refine Z.iload (pc := 56) (i := 4) dX7_whatToAsk_56 rfl ?_
      refine Z.istore_n (pc := 58) (i := 2) dX7_whatToAsk_58 rfl (by decide) rfl ?_
      refine Z.iload (pc := 59) (i := 6) dX7_whatToAsk_59 rfl ?_
      refine Z.istore_n (pc := 61) (i := 3) dX7_whatToAsk_61 rfl (by decide) rfl ?_
      refine Z.iinc (pc := 62) (i := 4) (v := (nI (i + 1))) dX7_whatToAsk_62 rfl (by exact ii_1 i) (by decide) rfl ?_
      refine Z.goto (pc := 65) (tgt := 14) dX7_whatToAsk_65 (by decide) ?_
      refine Z.drop 5 ?_
      refine Z.drop 6 ?_
      have e := ih (i + 1) (by omega)
      first | exact e | (rw [eS] at e; exact e)
set_option maxRecDepth 100000 in
set_option maxHeartbeats 400000 in
theorem c_X7_whatToAsk {h : hp} (k : Int32) (m : Nat) (hk : okK k) (hm : m < 1024)  : Cn yX7_whatToAsk cX7_whatToAsk 7 (some .int) 2 [.int k, .int (nI m)] h (z_eq (some (.int (askI k m))) h) := by
  refine Cn.of (by decide) (Nat.le_of_ble_eq_true rfl) ?_
  refine Z.eqL (lv' := [(0, .int k), (1, .int (nI m))]) rfl ?_
  refine Z.iload_n (pc := 0) (i := 1) dX7_whatToAsk_0 rfl rfl ?_
  refine Z.if_ne (pc := 1) (tgt := 6) dX7_whatToAsk_1 (by decide) (fun c1 => ?_) (fun c1 => ?_)
  · have hm0 : ¬ m = 0 := fun q => c1 (by rw [q]; rfl)
    refine Z.iconst (pc := 6) (v := (-1)) dX7_whatToAsk_6 (by decide) ?_
    refine Z.istore_n (pc := 7) (i := 2) dX7_whatToAsk_7 rfl (by decide) rfl ?_
    refine Z.bipush (pc := 8) (v := (nI 11)) dX7_whatToAsk_8 (by decide) ?_
    refine Z.istore_n (pc := 10) (i := 3) dX7_whatToAsk_10 rfl (by decide) rfl ?_
    refine Z.iconst (pc := 11) (v := (nI 0)) dX7_whatToAsk_11 (by decide) ?_
    refine Z.istore (pc := 12) (i := 4) dX7_whatToAsk_12 (by decide) rfl ?_
    exact l_X7_whatToAsk k m hk hm hm0 17 0 rfl
  · have hm0 : m = 0 := by rw [← nI_0] at c1; exact (nI_eq (by omega) (by decide)).mp c1
    refine Z.iconst (pc := 4) (v := (-1)) dX7_whatToAsk_4 (by decide) ?_
    refine Z.iret (pc := 5) (ty := .int) dX7_whatToAsk_5 rfl rfl ?_
    exact ⟨by simp [askI, hm0], rfl⟩
theorem sd_l {s : Nat} (hs : s < 2 ^ 31) : ((1103515245 * (nI s).toInt64 + 12345) - (1103515245 * (nI s).toInt64 + 12345) / 2147483648 * 2147483648).toInt32 = nI (sdN s) := by
  rw [nI_l hs]
  show ((lN 1103515245 * lN s + lN 12345) - (lN 1103515245 * lN s + lN 12345) / lN 2147483648 * lN 2147483648).toInt32 = _
  rw [lN_mul, lN_add, pk_lRem (by omega) (by decide) (by decide), lN_i]
  rfl
set_option maxRecDepth 100000 in
set_option maxHeartbeats 400000 in
theorem c_X1_next {h : hp} (s b : Nat) (hs : h.1 29 0 = nI s) (hs31 : s < 2 ^ 31) (hb : 0 < b) (hb31 : b < 2 ^ 31)  : Cn yX1_next cX1_next 2 (some .int) 0 [.ref 29, .int (nI b)] h (z_eq (some (.int (nI (sdN s / 65536 % b)))) (z_up h 29 0 (nI (sdN s)))) := by
  refine Cn.of (by decide) (Nat.le_of_ble_eq_true rfl) ?_
  refine Z.eqL (lv' := [(0, .ref 29), (1, .int (nI b))]) rfl ?_
  refine Z.aload_n (pc := 0) (i := 0) dX1_next_0 rfl rfl ?_
  refine Z.ldc2 (pc := 1) dX1_next_1 zk_X1_7 ?_
  refine Z.aload_n (pc := 4) (i := 0) dX1_next_4 rfl rfl ?_
  refine Z.getIv (pc := 5) dX1_next_5 zf_X1_9 rfl rfl hs ?_
  refine Z.i2l (pc := 8) dX1_next_8 ?_
  refine Z.lmul (pc := 9) dX1_next_9 ?_
  refine Z.ldc2 (pc := 10) dX1_next_10 zk_X1_15 ?_
  refine Z.ladd (pc := 13) dX1_next_13 ?_
  refine Z.ldc2 (pc := 14) dX1_next_14 zk_X1_17 ?_
  refine Z.lrem (pc := 17) dX1_next_17 (by decide) ?_
  refine Z.l2i (pc := 18) dX1_next_18 ?_
  refine Z.top (sd_l hs31) ?_
  refine Z.putI (pc := 19) dX1_next_19 zp_X1_9 rfl rfl rfl rfl ?_
  refine Z.iload_n (pc := 22) (i := 1) dX1_next_22 rfl rfl ?_
  refine Z.if_gt_t (pc := 23) (tgt := 30) dX1_next_23 (by decide) (nI_lt (a := 0) hb hb31) ?_
  refine Z.aload_n (pc := 30) (i := 0) dX1_next_30 rfl rfl ?_
  refine Z.getIv (pc := 31) dX1_next_31 zf_X1_9 rfl rfl (z_up_at _ _ _ _) ?_
  refine Z.ldc (pc := 34) dX1_next_34 zk_X1_19 ?_
  refine Z.idiv (pc := 36) dX1_next_36 (by decide) ?_
  refine Z.top (pk_div (d := 65536) (sdN_lt s) (by decide) (by decide)) ?_
  refine Z.iload_n (pc := 37) (i := 1) dX1_next_37 rfl rfl ?_
  refine Z.irem (pc := 38) dX1_next_38 (nI_ne0 hb hb31) ?_
  refine Z.top (pk_rem (Nat.lt_of_le_of_lt (Nat.div_le_self _ _) (sdN_lt s)) hb hb31) ?_
  refine Z.iret (pc := 39) (ty := .int) dX1_next_39 rfl rfl ?_
  exact ⟨rfl, rfl⟩
