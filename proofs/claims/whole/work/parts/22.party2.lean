set_option maxRecDepth 100000 in
set_option maxHeartbeats 400000 in
theorem c_X8_party {h : hp} {len n hr fd ho sz ihr ifd iho isz np : Nat} {pg k s f sg so se ik js isg iso ise : zF} {kept : Bool} (hD : D h ((len, pg), (n, k, s, f, hr, fd, ho), (sz, sg, so, se), kept, (ihr, ik, js, ifd, iho, (isz, isg, iso, ise)), np)) (hS : OkS ((len, pg), (n, k, s, f, hr, fd, ho), (sz, sg, so, se), kept, (ihr, ik, js, ifd, iho, (isz, isg, iso, ise)), np))  : Cn yX8_party cX8_party 1 (some .int) 9 [.ref 0] h (KD h (.int (a_party ((len, pg), (n, k, s, f, hr, fd, ho), (sz, sg, so, se), kept, (ihr, ik, js, ifd, iho, (isz, isg, iso, ise)), np)).1) (a_party ((len, pg), (n, k, s, f, hr, fd, ho), (sz, sg, so, se), kept, (ihr, ik, js, ifd, iho, (isz, isg, iso, ise)), np)).2) := by
  obtain ⟨hP, hG, hE, hK, hI, hX⟩ := id hD
  obtain ⟨⟨sp1, sp2⟩, ⟨sk, shl, sfd, sho, zk, zs, zf⟩, sE, sI⟩ := id hS
  have hR := hG.Rm shl sk
  have hn8 := sk.1
  have hp8 := p8 hn8
  refine Cn.of (by decide) (Nat.le_of_ble_eq_true rfl) ?_
  refine Z.eqL (lv' := [(0, .ref 0)]) rfl ?_
  refine Z.aload_n (pc := 0) (i := 0) dX8_party_0 rfl rfl ?_
  refine Z.getR (pc := 1) dX8_party_1 zf_X8_10 rfl rfl ?_
  refine Z.callVi (pc := 4) dX8_party_4 (c_X4_isParty hP.1 sp1) zm_X8_82 zv_X4_isParty rfl rfl rfl rfl (by decide) (by decide) (Nat.le_of_ble_eq_true rfl) ?_
  rw [hP.2]
  refine Z.if_ne_b (pc := 7) (tgt := 13) dX8_party_7 (by decide) (fun c7 => ?_) (fun c7 => ?_)
  · obtain ⟨i1, i2, i3, i4⟩ := isP_of c7
    obtain ⟨a, ha, ea⟩ := pgD_ok c7
    refine Z.aload_n (pc := 13) (i := 0) dX8_party_13 rfl rfl ?_
    refine Z.getR (pc := 14) dX8_party_14 zf_X8_19 rfl rfl ?_
    refine Z.aload_n (pc := 17) (i := 0) dX8_party_17 rfl rfl ?_
    refine Z.getR (pc := 18) dX8_party_18 zf_X8_10 rfl rfl ?_
    refine Z.callVv (pc := 21) dX8_party_21 (c_X6_readFrom (n := ((len - 2) / 4)) hP.1 sp1 (by omega) (by omega) (by omega)) zm_X8_86 zv_X6_readFrom rfl rfl rfl rfl (by decide) (by decide) (Nat.le_of_ble_eq_true rfl) ?_
    refine Z.aload_n (pc := 24) (i := 0) dX8_party_24 rfl rfl ?_
    refine Z.getR (pc := 25) dX8_party_25 zf_X8_10 rfl rfl ?_
    refine Z.callVi (pc := 28) dX8_party_28 (c_X4_clear (by exact hP.1) sp1) zm_X8_75 zv_X4_clear rfl rfl rfl rfl (by decide) (by decide) (Nat.le_of_ble_eq_true rfl) ?_
    refine Z.pop (pc := 31) dX8_party_31 rfl ?_
    refine Z.aload_n (pc := 32) (i := 0) dX8_party_32 rfl rfl ?_
    refine Z.getR (pc := 33) dX8_party_33 zf_X8_26 rfl rfl ?_
    refine Z.callVi (pc := 36) dX8_party_36 (c_X7_clear (by exact hE.1) sE.1) zm_X8_90 zv_X7_clear rfl rfl rfl rfl (by decide) (by decide) (Nat.le_of_ble_eq_true rfl) ?_
    refine Z.pop (pc := 39) dX8_party_39 rfl ?_
    refine Z.aload_n (pc := 40) (i := 0) dX8_party_40 rfl rfl ?_
    refine Z.iconst (pc := 41) (v := (0)) dX8_party_41 (by decide) ?_
    refine Z.putI (pc := 42) dX8_party_42 zp_X8_91 rfl rfl rfl rfl ?_
    refine Z.aload_n (pc := 45) (i := 0) dX8_party_45 rfl rfl ?_
    refine Z.dup (pc := 46) dX8_party_46 rfl ?_
    refine Z.getIv (pc := 47) dX8_party_47 zf_X8_95 rfl rfl (show _ = nI np from hK.2) ?_
    refine Z.iconst (pc := 50) (v := (1)) dX8_party_50 (by decide) ?_
    refine Z.iadd (pc := 51) dX8_party_51 ?_
    refine Z.top (nI_1 np) ?_
    refine Z.putI (pc := 52) dX8_party_52 zp_X8_95 rfl rfl rfl rfl ?_
    refine Z.aload_n (pc := 55) (i := 0) dX8_party_55 rfl rfl ?_
    refine Z.getR (pc := 56) dX8_party_56 zf_X8_19 rfl rfl ?_
    refine Z.getIv (pc := 59) dX8_party_59 zf_X8_98 rfl rfl (show _ = nI ((len - 2) / 4) from rfl) ?_
    refine Z.iret (pc := 62) (ty := .int) dX8_party_62 rfl rfl ?_
    exact kd (S' := ((0, pg), (((len - 2) / 4), rdR (pgK pg) k ((len - 2) / 4), rdR (pgS pg) s ((len - 2) / 4), rdR (pgF pg) f ((len - 2) / 4), 2 ^ ((len - 2) / 4) - 1, (pgD pg).toNatClampNeg, 0), (0, sg, so, se), false, (ihr, ik, js, ifd, iho, (isz, isg, iso, ise)), np + 1)) (by simp [a_party, c7]) ⟨⟨rfl, hP.2⟩, ⟨rfl, rfl, (by show pgD (h.1 2) = _; rw [hP.2, ea, nI_clamp (by omega)]), rfl, (by show rdR (pgK (h.1 2)) (h.1 4) _ = _; rw [hP.2, hG.2.2.2.2.1]), (by show rdR (pgS (h.1 2)) (h.1 5) _ = _; rw [hP.2, hG.2.2.2.2.2.1]), (by show rdR (pgF (h.1 2)) (h.1 6) _ = _; rw [hP.2, hG.2.2.2.2.2.2])⟩, ⟨rfl, hE.2⟩, ⟨rfl, rfl⟩, fun q => absurd q (by decide), hX.mv hX.1 rfl rfl rfl rfl rfl rfl hX.2.2.2.2.1 hX.2.2.2.2.2.1 hX.2.2.2.2.2.2.1⟩ (fr_up (fr_up (fr_up (fr_up (fr_rdH fr_rf) (by decide)) (by decide)) (by decide)) (by decide))
  · refine Z.bipush (pc := 10) (v := (-103)) dX8_party_10 (by decide) ?_
    refine Z.iret (pc := 12) (ty := .int) dX8_party_12 rfl rfl ?_
    exact kd (S' := ((len, pg), (n, k, s, f, hr, fd, ho), (sz, sg, so, se), kept, (ihr, ik, js, ifd, iho, (isz, isg, iso, ise)), np)) (by simp [a_party, c7]) hD fr_rf
set_option maxRecDepth 100000 in
set_option maxHeartbeats 400000 in
theorem c_X8_tellOfGuest_0 {h : hp} {n hr sz : Nat} {k s f sg so se : zF} (hR : Rm h 3 n hr k s f) (hE : DE h sz sg so se) (sE : sz ≤ 6) (j : Nat) (hj : j < n)  : Cn yX8_tellOfGuest cX8_tellOfGuest 3 (some .int) 3 [.ref 0, .int (nI j), .int (nI 0)] h (z_eq (some (.int (tlI n k s f hr sz sg so se j 0))) h) := by
  have hn8 := hR.2.2.2.1.1
  refine Cn.of (by decide) (Nat.le_of_ble_eq_true rfl) ?_
  refine Z.eqL (lv' := [(0, .ref 0), (1, .int (nI j)), (2, .int (nI 0))]) rfl ?_
  refine Z.iload_n (pc := 0) (i := 2) dX8_tellOfGuest_0 rfl rfl ?_
  refine Z.tableIn (pc := 1) (off := 47) (tgt := 48) dX8_tellOfGuest_1 (by decide) (by decide) (by decide) (by decide) ?_
  refine Z.aload_n (pc := 48) (i := 0) dX8_tellOfGuest_48 rfl rfl ?_
  refine Z.getR (pc := 49) dX8_tellOfGuest_49 zf_X8_19 rfl rfl ?_
  refine Z.getR (pc := 52) dX8_tellOfGuest_52 zf_X8_118 rfl rfl ?_
  refine Z.iload_n (pc := 55) (i := 1) dX8_tellOfGuest_55 rfl rfl ?_
  refine Z.iald (pc := 56) dX8_tellOfGuest_56 rfl (by omega) (by decide) ?_
  refine Z.top (show _ = k j from congrFun hR.2.2.2.2.1 j) ?_
  refine Z.iret (pc := 57) (ty := .int) dX8_tellOfGuest_57 rfl rfl ?_
  exact ⟨rfl, rfl⟩
set_option maxRecDepth 100000 in
set_option maxHeartbeats 400000 in
theorem c_X8_tellOfGuest_1 {h : hp} {n hr sz : Nat} {k s f sg so se : zF} (hR : Rm h 3 n hr k s f) (hE : DE h sz sg so se) (sE : sz ≤ 6) (j : Nat) (hj : j < n)  : Cn yX8_tellOfGuest cX8_tellOfGuest 3 (some .int) 3 [.ref 0, .int (nI j), .int (nI 1)] h (z_eq (some (.int (tlI n k s f hr sz sg so se j 1))) h) := by
  have hn8 := hR.2.2.2.1.1
  refine Cn.of (by decide) (Nat.le_of_ble_eq_true rfl) ?_
  refine Z.eqL (lv' := [(0, .ref 0), (1, .int (nI j)), (2, .int (nI 1))]) rfl ?_
  refine Z.iload_n (pc := 0) (i := 2) dX8_tellOfGuest_0 rfl rfl ?_
  refine Z.tableIn (pc := 1) (off := 57) (tgt := 58) dX8_tellOfGuest_1 (by decide) (by decide) (by decide) (by decide) ?_
  refine Z.aload_n (pc := 58) (i := 0) dX8_tellOfGuest_58 rfl rfl ?_
  refine Z.getR (pc := 59) dX8_tellOfGuest_59 zf_X8_19 rfl rfl ?_
  refine Z.getR (pc := 62) dX8_tellOfGuest_62 zf_X8_156 rfl rfl ?_
  refine Z.iload_n (pc := 65) (i := 1) dX8_tellOfGuest_65 rfl rfl ?_
  refine Z.iald (pc := 66) dX8_tellOfGuest_66 rfl (by omega) (by decide) ?_
  refine Z.top (show _ = s j from congrFun hR.2.2.2.2.2.1 j) ?_
  refine Z.iret (pc := 67) (ty := .int) dX8_tellOfGuest_67 rfl rfl ?_
  exact ⟨rfl, rfl⟩
set_option maxRecDepth 100000 in
set_option maxHeartbeats 400000 in
theorem c_X8_tellOfGuest_2 {h : hp} {n hr sz : Nat} {k s f sg so se : zF} (hR : Rm h 3 n hr k s f) (hE : DE h sz sg so se) (sE : sz ≤ 6) (j : Nat) (hj : j < n)  : Cn yX8_tellOfGuest cX8_tellOfGuest 3 (some .int) 3 [.ref 0, .int (nI j), .int (nI 2)] h (z_eq (some (.int (tlI n k s f hr sz sg so se j 2))) h) := by
  have hn8 := hR.2.2.2.1.1
  refine Cn.of (by decide) (Nat.le_of_ble_eq_true rfl) ?_
  refine Z.eqL (lv' := [(0, .ref 0), (1, .int (nI j)), (2, .int (nI 2))]) rfl ?_
  refine Z.iload_n (pc := 0) (i := 2) dX8_tellOfGuest_0 rfl rfl ?_
  refine Z.tableIn (pc := 1) (off := 67) (tgt := 68) dX8_tellOfGuest_1 (by decide) (by decide) (by decide) (by decide) ?_
  refine Z.aload_n (pc := 68) (i := 0) dX8_tellOfGuest_68 rfl rfl ?_
  refine Z.getR (pc := 69) dX8_tellOfGuest_69 zf_X8_19 rfl rfl ?_
  refine Z.getR (pc := 72) dX8_tellOfGuest_72 zf_X8_241 rfl rfl ?_
  refine Z.iload_n (pc := 75) (i := 1) dX8_tellOfGuest_75 rfl rfl ?_
  refine Z.iald (pc := 76) dX8_tellOfGuest_76 rfl (by omega) (by decide) ?_
  refine Z.top (show _ = f j from congrFun hR.2.2.2.2.2.2 j) ?_
  refine Z.iret (pc := 77) (ty := .int) dX8_tellOfGuest_77 rfl rfl ?_
  exact ⟨rfl, rfl⟩
set_option maxRecDepth 100000 in
set_option maxHeartbeats 400000 in
theorem c_X8_tellOfGuest_3 {h : hp} {n hr sz : Nat} {k s f sg so se : zF} (hR : Rm h 3 n hr k s f) (hE : DE h sz sg so se) (sE : sz ≤ 6) (j : Nat) (hj : j < n)  : Cn yX8_tellOfGuest cX8_tellOfGuest 3 (some .int) 3 [.ref 0, .int (nI j), .int (nI 3)] h (z_eq (some (.int (tlI n k s f hr sz sg so se j 3))) h) := by
  have hn8 := hR.2.2.2.1.1
  refine Cn.of (by decide) (Nat.le_of_ble_eq_true rfl) ?_
  refine Z.eqL (lv' := [(0, .ref 0), (1, .int (nI j)), (2, .int (nI 3))]) rfl ?_
  refine Z.iload_n (pc := 0) (i := 2) dX8_tellOfGuest_0 rfl rfl ?_
  refine Z.tableIn (pc := 1) (off := 77) (tgt := 78) dX8_tellOfGuest_1 (by decide) (by decide) (by decide) (by decide) ?_
  refine Z.aload_n (pc := 78) (i := 0) dX8_tellOfGuest_78 rfl rfl ?_
  refine Z.getR (pc := 79) dX8_tellOfGuest_79 zf_X8_19 rfl rfl ?_
  refine Z.iload_n (pc := 82) (i := 1) dX8_tellOfGuest_82 rfl rfl ?_
  refine Z.callVi (pc := 83) dX8_tellOfGuest_83 (c_X6_isHere (o := 3) (Or.inl rfl) hR j (by omega)) zm_X8_149 zv_X6_isHere rfl rfl rfl rfl (by decide) (by decide) (Nat.le_of_ble_eq_true rfl) ?_
  refine Z.if_eq_b (pc := 86) (tgt := 93) dX8_tellOfGuest_86 (by decide) (fun c86 => ?_) (fun c86 => ?_)
  · refine Z.iconst (pc := 93) (v := (0)) dX8_tellOfGuest_93 (by decide) ?_
    refine Z.iret (pc := 94) (ty := .int) dX8_tellOfGuest_94 rfl rfl ?_
    first | exact ⟨zb_f rfl c86, rfl⟩ | exact ⟨zb_t rfl c86, rfl⟩
  · refine Z.iconst (pc := 89) (v := (1)) dX8_tellOfGuest_89 (by decide) ?_
    refine Z.goto (pc := 90) (tgt := 94) dX8_tellOfGuest_90 (by decide) ?_
    refine Z.iret (pc := 94) (ty := .int) dX8_tellOfGuest_94 rfl rfl ?_
    first | exact ⟨zb_f rfl c86, rfl⟩ | exact ⟨zb_t rfl c86, rfl⟩
set_option maxRecDepth 100000 in
set_option maxHeartbeats 400000 in
theorem c_X8_tellOfGuest_4 {h : hp} {n hr sz : Nat} {k s f sg so se : zF} (hR : Rm h 3 n hr k s f) (hE : DE h sz sg so se) (sE : sz ≤ 6) (j : Nat) (hj : j < n)  : Cn yX8_tellOfGuest cX8_tellOfGuest 3 (some .int) 3 [.ref 0, .int (nI j), .int (nI 4)] h (z_eq (some (.int (tlI n k s f hr sz sg so se j 4))) h) := by
  have hn8 := hR.2.2.2.1.1
  refine Cn.of (by decide) (Nat.le_of_ble_eq_true rfl) ?_
  refine Z.eqL (lv' := [(0, .ref 0), (1, .int (nI j)), (2, .int (nI 4))]) rfl ?_
  refine Z.iload_n (pc := 0) (i := 2) dX8_tellOfGuest_0 rfl rfl ?_
  refine Z.tableIn (pc := 1) (off := 94) (tgt := 95) dX8_tellOfGuest_1 (by decide) (by decide) (by decide) (by decide) ?_
  refine Z.aload_n (pc := 95) (i := 0) dX8_tellOfGuest_95 rfl rfl ?_
  refine Z.getR (pc := 96) dX8_tellOfGuest_96 zf_X8_19 rfl rfl ?_
  refine Z.iload_n (pc := 99) (i := 1) dX8_tellOfGuest_99 rfl rfl ?_
  refine Z.callVi (pc := 100) dX8_tellOfGuest_100 (c_X6_needsOf (o := 3) (Or.inl rfl) hR j hj) zm_X8_244 zv_X6_needsOf rfl rfl rfl rfl (by decide) (by decide) (Nat.le_of_ble_eq_true rfl) ?_
  refine Z.iret (pc := 103) (ty := .int) dX8_tellOfGuest_103 rfl rfl ?_
  exact ⟨rfl, rfl⟩
set_option maxRecDepth 100000 in
set_option maxHeartbeats 400000 in
theorem c_X8_tellOfGuest_5 {h : hp} {n hr sz : Nat} {k s f sg so se : zF} (hR : Rm h 3 n hr k s f) (hE : DE h sz sg so se) (sE : sz ≤ 6) (j : Nat) (hj : j < n)  : Cn yX8_tellOfGuest cX8_tellOfGuest 3 (some .int) 3 [.ref 0, .int (nI j), .int (nI 5)] h (z_eq (some (.int (tlI n k s f hr sz sg so se j 5))) h) := by
  have hn8 := hR.2.2.2.1.1
  refine Cn.of (by decide) (Nat.le_of_ble_eq_true rfl) ?_
  refine Z.eqL (lv' := [(0, .ref 0), (1, .int (nI j)), (2, .int (nI 5))]) rfl ?_
  refine Z.iload_n (pc := 0) (i := 2) dX8_tellOfGuest_0 rfl rfl ?_
  refine Z.tableIn (pc := 1) (off := 103) (tgt := 104) dX8_tellOfGuest_1 (by decide) (by decide) (by decide) (by decide) ?_
  refine Z.aload_n (pc := 104) (i := 0) dX8_tellOfGuest_104 rfl rfl ?_
  refine Z.getR (pc := 105) dX8_tellOfGuest_105 zf_X8_19 rfl rfl ?_
  refine Z.getR (pc := 108) dX8_tellOfGuest_108 zf_X8_118 rfl rfl ?_
  refine Z.iload_n (pc := 111) (i := 1) dX8_tellOfGuest_111 rfl rfl ?_
  refine Z.iald (pc := 112) dX8_tellOfGuest_112 rfl (by omega) (by decide) ?_
  refine Z.top (show _ = k j from congrFun hR.2.2.2.2.1 j) ?_
  refine Z.callSi (pc := 113) dX8_tellOfGuest_113 (c_X3_countsAs _) zm_X8_247 zs_X3_countsAs rfl rfl (by decide) (by decide) (Nat.le_of_ble_eq_true rfl) ?_
  refine Z.iret (pc := 116) (ty := .int) dX8_tellOfGuest_116 rfl rfl ?_
  exact ⟨rfl, rfl⟩
set_option maxRecDepth 100000 in
set_option maxHeartbeats 400000 in
theorem c_X8_tellOfGuest_6 {h : hp} {n hr sz : Nat} {k s f sg so se : zF} (hR : Rm h 3 n hr k s f) (hE : DE h sz sg so se) (sE : sz ≤ 6) (j : Nat) (hj : j < n)  : Cn yX8_tellOfGuest cX8_tellOfGuest 3 (some .int) 3 [.ref 0, .int (nI j), .int (nI 6)] h (z_eq (some (.int (tlI n k s f hr sz sg so se j 6))) h) := by
  have hn8 := hR.2.2.2.1.1
  refine Cn.of (by decide) (Nat.le_of_ble_eq_true rfl) ?_
  refine Z.eqL (lv' := [(0, .ref 0), (1, .int (nI j)), (2, .int (nI 6))]) rfl ?_
  refine Z.iload_n (pc := 0) (i := 2) dX8_tellOfGuest_0 rfl rfl ?_
  refine Z.tableIn (pc := 1) (off := 116) (tgt := 117) dX8_tellOfGuest_1 (by decide) (by decide) (by decide) (by decide) ?_
  refine Z.aload_n (pc := 117) (i := 0) dX8_tellOfGuest_117 rfl rfl ?_
  refine Z.getR (pc := 118) dX8_tellOfGuest_118 zf_X8_26 rfl rfl ?_
  refine Z.iload_n (pc := 121) (i := 1) dX8_tellOfGuest_121 rfl rfl ?_
  refine Z.aload_n (pc := 122) (i := 0) dX8_tellOfGuest_122 rfl rfl ?_
  refine Z.getR (pc := 123) dX8_tellOfGuest_123 zf_X8_19 rfl rfl ?_
  refine Z.getR (pc := 126) dX8_tellOfGuest_126 zf_X8_118 rfl rfl ?_
  refine Z.iload_n (pc := 129) (i := 1) dX8_tellOfGuest_129 rfl rfl ?_
  refine Z.iald (pc := 130) dX8_tellOfGuest_130 rfl (by omega) (by decide) ?_
  refine Z.top (show _ = k j from congrFun hR.2.2.2.2.1 j) ?_
  refine Z.callVi (pc := 131) dX8_tellOfGuest_131 (c_X7_shynessOf hE.1 sE _ _ (hR.2.2.2.1.2.1 j hj)) zm_X8_250 zv_X7_shynessOf rfl rfl rfl rfl (by decide) (by decide) (Nat.le_of_ble_eq_true rfl) ?_
  refine Z.top (show _ = nI (shF sg so se (nI j) (k j) sz) from by rw [hE.2.1, hE.2.2.1, hE.2.2.2]) ?_
  refine Z.iret (pc := 134) (ty := .int) dX8_tellOfGuest_134 rfl rfl ?_
  exact ⟨rfl, rfl⟩
set_option maxRecDepth 100000 in
set_option maxHeartbeats 400000 in
theorem c_X8_tellOfGuest_7 {h : hp} {n hr sz : Nat} {k s f sg so se : zF} (hR : Rm h 3 n hr k s f) (hE : DE h sz sg so se) (sE : sz ≤ 6) (j : Nat) (hj : j < n)  : Cn yX8_tellOfGuest cX8_tellOfGuest 3 (some .int) 3 [.ref 0, .int (nI j), .int (nI 7)] h (z_eq (some (.int (tlI n k s f hr sz sg so se j 7))) h) := by
  have hn8 := hR.2.2.2.1.1
  refine Cn.of (by decide) (Nat.le_of_ble_eq_true rfl) ?_
  refine Z.eqL (lv' := [(0, .ref 0), (1, .int (nI j)), (2, .int (nI 7))]) rfl ?_
  refine Z.iload_n (pc := 0) (i := 2) dX8_tellOfGuest_0 rfl rfl ?_
  refine Z.tableIn (pc := 1) (off := 134) (tgt := 135) dX8_tellOfGuest_1 (by decide) (by decide) (by decide) (by decide) ?_
  refine Z.aload_n (pc := 135) (i := 0) dX8_tellOfGuest_135 rfl rfl ?_
  refine Z.getR (pc := 136) dX8_tellOfGuest_136 zf_X8_19 rfl rfl ?_
  refine Z.getR (pc := 139) dX8_tellOfGuest_139 zf_X8_118 rfl rfl ?_
  refine Z.iload_n (pc := 142) (i := 1) dX8_tellOfGuest_142 rfl rfl ?_
  refine Z.iald (pc := 143) dX8_tellOfGuest_143 rfl (by omega) (by decide) ?_
  refine Z.top (show _ = k j from congrFun hR.2.2.2.2.1 j) ?_
  refine Z.aload_n (pc := 144) (i := 0) dX8_tellOfGuest_144 rfl rfl ?_
  refine Z.getR (pc := 145) dX8_tellOfGuest_145 zf_X8_26 rfl rfl ?_
  refine Z.iload_n (pc := 148) (i := 1) dX8_tellOfGuest_148 rfl rfl ?_
  refine Z.aload_n (pc := 149) (i := 0) dX8_tellOfGuest_149 rfl rfl ?_
  refine Z.getR (pc := 150) dX8_tellOfGuest_150 zf_X8_19 rfl rfl ?_
  refine Z.getR (pc := 153) dX8_tellOfGuest_153 zf_X8_118 rfl rfl ?_
  refine Z.iload_n (pc := 156) (i := 1) dX8_tellOfGuest_156 rfl rfl ?_
  refine Z.iald (pc := 157) dX8_tellOfGuest_157 rfl (by omega) (by decide) ?_
  refine Z.top (show _ = k j from congrFun hR.2.2.2.2.1 j) ?_
  refine Z.callVi (pc := 158) dX8_tellOfGuest_158 (c_X7_shynessOf hE.1 sE _ _ (hR.2.2.2.1.2.1 j hj)) zm_X8_250 zv_X7_shynessOf rfl rfl rfl rfl (by decide) (by decide) (Nat.le_of_ble_eq_true rfl) ?_
  refine Z.top (show _ = nI (shF sg so se (nI j) (k j) sz) from by rw [hE.2.1, hE.2.2.1, hE.2.2.2]) ?_
  refine Z.callSi (pc := 161) dX8_tellOfGuest_161 (c_X7_whatToAsk _ _ (hR.2.2.2.1.2.1 j hj) (shF_lt _ _ _ _ _ _)) zm_X8_253 zs_X7_whatToAsk rfl rfl (by decide) (by decide) (Nat.le_of_ble_eq_true rfl) ?_
  refine Z.iret (pc := 164) (ty := .int) dX8_tellOfGuest_164 rfl rfl ?_
  exact ⟨rfl, rfl⟩
set_option maxRecDepth 100000 in
set_option maxHeartbeats 400000 in
theorem c_X8_tellOfGuest_8 {h : hp} {n hr sz : Nat} {k s f sg so se : zF} (hR : Rm h 3 n hr k s f) (hE : DE h sz sg so se) (sE : sz ≤ 6) (j : Nat) (hj : j < n) (hH : h.1 28 j = homI k s f n hr j)  : Cn yX8_tellOfGuest cX8_tellOfGuest 3 (some .int) 3 [.ref 0, .int (nI j), .int (nI 8)] h (z_eq (some (.int (tlI n k s f hr sz sg so se j 8))) h) := by
  have hn8 := hR.2.2.2.1.1
  refine Cn.of (by decide) (Nat.le_of_ble_eq_true rfl) ?_
  refine Z.eqL (lv' := [(0, .ref 0), (1, .int (nI j)), (2, .int (nI 8))]) rfl ?_
  refine Z.iload_n (pc := 0) (i := 2) dX8_tellOfGuest_0 rfl rfl ?_
  refine Z.tableOut (pc := 1) (tgt := 165) dX8_tellOfGuest_1 (by decide) (by decide) ?_
  refine Z.aload_n (pc := 165) (i := 0) dX8_tellOfGuest_165 rfl rfl ?_
  refine Z.getR (pc := 166) dX8_tellOfGuest_166 zf_X8_56 rfl rfl ?_
  refine Z.getR (pc := 169) dX8_tellOfGuest_169 zf_X8_256 rfl rfl ?_
  refine Z.iload_n (pc := 172) (i := 1) dX8_tellOfGuest_172 rfl rfl ?_
  refine Z.iald (pc := 173) dX8_tellOfGuest_173 rfl (by omega) (by decide) ?_
  refine Z.top (hH) ?_
  refine Z.iret (pc := 174) (ty := .int) dX8_tellOfGuest_174 rfl rfl ?_
  exact ⟨rfl, rfl⟩
theorem c_X8_tellOfGuest {h : hp} {n hr sz : Nat} {k s f sg so se : zF} (hR : Rm h 3 n hr k s f) (hE : DE h sz sg so se) (sE : sz ≤ 6) (j : Nat) (hj : j < n) (w : Nat) (hw : w ≤ 8) (hH : w = 8 → h.1 28 j = homI k s f n hr j) : Cn yX8_tellOfGuest cX8_tellOfGuest 3 (some .int) 3 [.ref 0, .int (nI j), .int (nI w)] h (z_eq (some (.int (tlI n k s f hr sz sg so se j w))) h) := by
  rcases (show w = 0 ∨ w = 1 ∨ w = 2 ∨ w = 3 ∨ w = 4 ∨ w = 5 ∨ w = 6 ∨ w = 7 ∨ w = 8 by omega) with rfl | rfl | rfl | rfl | rfl | rfl | rfl | rfl | rfl
  · exact c_X8_tellOfGuest_0 hR hE sE j hj
  · exact c_X8_tellOfGuest_1 hR hE sE j hj
  · exact c_X8_tellOfGuest_2 hR hE sE j hj
  · exact c_X8_tellOfGuest_3 hR hE sE j hj
  · exact c_X8_tellOfGuest_4 hR hE sE j hj
  · exact c_X8_tellOfGuest_5 hR hE sE j hj
  · exact c_X8_tellOfGuest_6 hR hE sE j hj
  · exact c_X8_tellOfGuest_7 hR hE sE j hj
  · exact c_X8_tellOfGuest_8 hR hE sE j hj (hH rfl)
set_option maxRecDepth 100000 in
set_option maxHeartbeats 400000 in
theorem c_X8_guest {h : hp} {len n hr fd ho sz ihr ifd iho isz np : Nat} {pg k s f sg so se ik js isg iso ise : zF} {kept : Bool} (hD : D h ((len, pg), (n, k, s, f, hr, fd, ho), (sz, sg, so, se), kept, (ihr, ik, js, ifd, iho, (isz, isg, iso, ise)), np)) (hS : OkS ((len, pg), (n, k, s, f, hr, fd, ho), (sz, sg, so, se), kept, (ihr, ik, js, ifd, iho, (isz, isg, iso, ise)), np)) (g w : Int32)  : Cn yX8_guest cX8_guest 3 (some .int) 4 [.ref 0, .int g, .int w] h (KD h (.int (a_guest ((len, pg), (n, k, s, f, hr, fd, ho), (sz, sg, so, se), kept, (ihr, ik, js, ifd, iho, (isz, isg, iso, ise)), np) g w).1) (a_guest ((len, pg), (n, k, s, f, hr, fd, ho), (sz, sg, so, se), kept, (ihr, ik, js, ifd, iho, (isz, isg, iso, ise)), np) g w).2) := by
  obtain ⟨hP, hG, hE, hK, hI, hX⟩ := id hD
  obtain ⟨⟨sp1, sp2⟩, ⟨sk, shl, sfd, sho, zk, zs, zf⟩, sE, sI⟩ := id hS
  have hR := hG.Rm shl sk
  have hn8 := sk.1
  have hp8 := p8 hn8
  refine Cn.of (by decide) (Nat.le_of_ble_eq_true rfl) ?_
  refine Z.eqL (lv' := [(0, .ref 0), (1, .int g), (2, .int w)]) rfl ?_
  refine Z.aload_n (pc := 0) (i := 0) dX8_guest_0 rfl rfl ?_
  refine Z.getR (pc := 1) dX8_guest_1 zf_X8_19 rfl rfl ?_
  refine Z.iload_n (pc := 4) (i := 1) dX8_guest_4 rfl rfl ?_
  refine Z.callVi (pc := 5) dX8_guest_5 (c_X6_hasGuest (o := 3) (Or.inl rfl) hR g) zm_X8_101 zv_X6_hasGuest rfl rfl rfl rfl (by decide) (by decide) (Nat.le_of_ble_eq_true rfl) ?_
  refine Z.if_ne_b (pc := 8) (tgt := 14) dX8_guest_8 (by decide) (fun c8 => ?_) (fun c8 => ?_)
  · have q : gB n g = true := c8
    obtain ⟨j, hj, rfl⟩ := gB_of q hn8
    have ej : (nI j).toNatClampNeg = j := nI_clamp (by omega)
    refine Z.iload_n (pc := 14) (i := 2) dX8_guest_14 rfl rfl ?_
    refine Z.if_lt (pc := 15) (tgt := 24) dX8_guest_15 (by decide) (fun c15 => ?_) (fun c15 => ?_)
    · have q2 : inR w 0 8 = false := decide_eq_false (fun v => lt_nle c15 v.1)
      refine Z.bipush (pc := 24) (v := (-102)) dX8_guest_24 (by decide) ?_
      refine Z.iret (pc := 26) (ty := .int) dX8_guest_26 rfl rfl ?_
      exact kd (S' := ((len, pg), (n, k, s, f, hr, fd, ho), (sz, sg, so, se), kept, (ihr, ik, js, ifd, iho, (isz, isg, iso, ise)), np)) (by simp [a_guest, q, q2]) hD fr_rf
    · refine Z.iload_n (pc := 18) (i := 2) dX8_guest_18 rfl rfl ?_
      refine Z.bipush (pc := 19) (v := (8)) dX8_guest_19 (by decide) ?_
      refine Z.icmp_le (pc := 21) (tgt := 27) dX8_guest_21 (by decide) (fun c21 => ?_) (fun c21 => ?_)
      · have q2 : inR w 0 8 = true := decide_eq_true ⟨nlt c15, c21⟩
        obtain ⟨v, hv, rfl⟩ := inR_of (b := 8) (by decide) q2
        have ev : (nI v).toNatClampNeg = v := nI_clamp (by omega)
        refine Z.iload_n (pc := 27) (i := 2) dX8_guest_27 rfl rfl ?_
        refine Z.bipush (pc := 28) (v := (nI 8)) dX8_guest_28 (by decide) ?_
        refine Z.icmp_ne (pc := 30) (tgt := 44) dX8_guest_30 (by decide) (fun c30 => ?_) (fun c30 => ?_)
        · have q3 : ¬ v = 8 := fun z => c30 (by rw [z])
          have hc := c_X8_tellOfGuest hR hE sE.1 j hj v hv (fun z => absurd z q3)
          refine Z.aload_n (pc := 44) (i := 0) dX8_guest_44 rfl rfl ?_
          refine Z.iload_n (pc := 45) (i := 1) dX8_guest_45 rfl rfl ?_
          refine Z.iload_n (pc := 46) (i := 2) dX8_guest_46 rfl rfl ?_
          refine Z.callVi (pc := 47) dX8_guest_47 (hc) zm_X8_109 zv_X8_tellOfGuest rfl rfl rfl rfl (by decide) (by decide) (Nat.le_of_ble_eq_true rfl) ?_
          refine Z.iret (pc := 50) (ty := .int) dX8_guest_50 rfl rfl ?_
          first
            | exact kd (S' := ((len, pg), (n, k, s, f, hr, fd, ho), (sz, sg, so, se), kept, (ihr, ik, js, ifd, iho, (isz, isg, iso, ise)), np)) (by simp [a_guest, q, q2, ej, ev]) hD fr_rf
            | exact kd (S' := ((len, pg), (n, k, s, f, hr, fd, ho), (sz, sg, so, se), kept, (ihr, ik, js, ifd, iho, (isz, isg, iso, ise)), np)) (by simp [a_guest, q, q2, ej, ev]) ⟨hP.mv rfl rfl, hG.mv rfl rfl rfl rfl, hE.mv rfl rfl rfl rfl, hK.mv rfl, hI.mv rfl rfl rfl rfl rfl rfl rfl rfl, hX.mv hX.1 rfl rfl rfl rfl rfl rfl hX.2.2.2.2.1 hX.2.2.2.2.2.1 hX.2.2.2.2.2.2.1⟩ (fr_row fr_rf (by decide))
        · have q3 : v = 8 := (nI_eq (by omega) (by decide)).mp c30
          have hc := c_X8_tellOfGuest (h := z_row h 28 (hoT k s f n hr (h.1 28))) (Rm_out hR (by decide) (by decide) (by decide) (by decide)) (hE.mv rfl rfl rfl rfl) sE.1 j hj v hv (fun _ => show hoT k s f n hr (h.1 28) j = _ from hoT_hom (by omega))
          refine Z.aload_n (pc := 33) (i := 0) dX8_guest_33 rfl rfl ?_
          refine Z.getR (pc := 34) dX8_guest_34 zf_X8_56 rfl rfl ?_
          refine Z.aload_n (pc := 37) (i := 0) dX8_guest_37 rfl rfl ?_
          refine Z.getR (pc := 38) dX8_guest_38 zf_X8_19 rfl rfl ?_
          refine Z.callVv (pc := 41) dX8_guest_41 (c_X2_find hR) zm_X8_105 zv_X2_find rfl rfl rfl rfl (by decide) (by decide) (Nat.le_of_ble_eq_true rfl) ?_
          refine Z.aload_n (pc := 44) (i := 0) dX8_guest_44 rfl rfl ?_
          refine Z.iload_n (pc := 45) (i := 1) dX8_guest_45 rfl rfl ?_
          refine Z.iload_n (pc := 46) (i := 2) dX8_guest_46 rfl rfl ?_
          refine Z.callVi (pc := 47) dX8_guest_47 (hc) zm_X8_109 zv_X8_tellOfGuest rfl rfl rfl rfl (by decide) (by decide) (Nat.le_of_ble_eq_true rfl) ?_
          refine Z.iret (pc := 50) (ty := .int) dX8_guest_50 rfl rfl ?_
          first
            | exact kd (S' := ((len, pg), (n, k, s, f, hr, fd, ho), (sz, sg, so, se), kept, (ihr, ik, js, ifd, iho, (isz, isg, iso, ise)), np)) (by simp [a_guest, q, q2, ej, ev]) hD fr_rf
            | exact kd (S' := ((len, pg), (n, k, s, f, hr, fd, ho), (sz, sg, so, se), kept, (ihr, ik, js, ifd, iho, (isz, isg, iso, ise)), np)) (by simp [a_guest, q, q2, ej, ev]) ⟨hP.mv rfl rfl, hG.mv rfl rfl rfl rfl, hE.mv rfl rfl rfl rfl, hK.mv rfl, hI.mv rfl rfl rfl rfl rfl rfl rfl rfl, hX.mv hX.1 rfl rfl rfl rfl rfl rfl hX.2.2.2.2.1 hX.2.2.2.2.2.1 hX.2.2.2.2.2.2.1⟩ (fr_row fr_rf (by decide))
      · have q2 : inR w 0 8 = false := decide_eq_false (fun v => c21 v.2)
        refine Z.bipush (pc := 24) (v := (-102)) dX8_guest_24 (by decide) ?_
        refine Z.iret (pc := 26) (ty := .int) dX8_guest_26 rfl rfl ?_
        exact kd (S' := ((len, pg), (n, k, s, f, hr, fd, ho), (sz, sg, so, se), kept, (ihr, ik, js, ifd, iho, (isz, isg, iso, ise)), np)) (by simp [a_guest, q, q2]) hD fr_rf
  · have q : gB n g = false := c8
    refine Z.bipush (pc := 11) (v := (-101)) dX8_guest_11 (by decide) ?_
    refine Z.iret (pc := 13) (ty := .int) dX8_guest_13 rfl rfl ?_
    exact kd (S' := ((len, pg), (n, k, s, f, hr, fd, ho), (sz, sg, so, se), kept, (ihr, ik, js, ifd, iho, (isz, isg, iso, ise)), np)) (by simp [a_guest, q]) hD fr_rf
set_option maxRecDepth 100000 in
set_option maxHeartbeats 400000 in
theorem c_X8_least {h : hp} {len n hr fd ho sz ihr ifd iho isz np : Nat} {pg k s f sg so se ik js isg iso ise : zF} {kept : Bool} (hD : D h ((len, pg), (n, k, s, f, hr, fd, ho), (sz, sg, so, se), kept, (ihr, ik, js, ifd, iho, (isz, isg, iso, ise)), np)) (hS : OkS ((len, pg), (n, k, s, f, hr, fd, ho), (sz, sg, so, se), kept, (ihr, ik, js, ifd, iho, (isz, isg, iso, ise)), np))  : Cn yX8_least cX8_least 1 (some .int) 4 [.ref 0] h (KD h (.int (a_least ((len, pg), (n, k, s, f, hr, fd, ho), (sz, sg, so, se), kept, (ihr, ik, js, ifd, iho, (isz, isg, iso, ise)), np)).1) (a_least ((len, pg), (n, k, s, f, hr, fd, ho), (sz, sg, so, se), kept, (ihr, ik, js, ifd, iho, (isz, isg, iso, ise)), np)).2) := by
  obtain ⟨hP, hG, hE, hK, hI, hX⟩ := id hD
  obtain ⟨⟨sp1, sp2⟩, ⟨sk, shl, sfd, sho, zk, zs, zf⟩, sE, sI⟩ := id hS
  have hR := hG.Rm shl sk
  have hn8 := sk.1
  have hp8 := p8 hn8
  refine Cn.of (by decide) (Nat.le_of_ble_eq_true rfl) ?_
  refine Z.eqL (lv' := [(0, .ref 0)]) rfl ?_
  refine Z.aload_n (pc := 0) (i := 0) dX8_least_0 rfl rfl ?_
  refine Z.callVi (pc := 1) dX8_least_1 (c_X8_hasParty hG.1 hn8) zm_X8_140 zv_X8_hasParty rfl rfl rfl rfl (by decide) (by decide) (Nat.le_of_ble_eq_true rfl) ?_
  refine Z.if_ne_b (pc := 4) (tgt := 10) dX8_least_4 (by decide) (fun c4 => ?_) (fun c4 => ?_)
  · have n0 : ¬ n = 0 := by have := of_decide_eq_true c4; omega
    refine Z.aload_n (pc := 10) (i := 0) dX8_least_10 rfl rfl ?_
    refine Z.getR (pc := 11) dX8_least_11 zf_X8_42 rfl rfl ?_
    refine Z.aload_n (pc := 14) (i := 0) dX8_least_14 rfl rfl ?_
    refine Z.getR (pc := 15) dX8_least_15 zf_X8_19 rfl rfl ?_
    refine Z.callV (pc := 18) dX8_least_18 (c_X5_find hR hX.1) zm_X8_165 zv_X5_find rfl rfl rfl rfl (by decide) (by decide) (Nat.le_of_ble_eq_true rfl) (fun r18 h18 k18 => ?_)
    obtain ⟨rfl, t, rfl, hT⟩ := k18
    refine Z.aload_n (pc := 21) (i := 0) dX8_least_21 rfl rfl ?_
    refine Z.getR (pc := 22) dX8_least_22 zf_X8_42 rfl rfl ?_
    refine Z.callVi (pc := 25) dX8_least_25 (c_X5_fewest (by exact rfl) (by omega) (by exact hT)) zm_X8_166 zv_X5_fewest rfl rfl rfl rfl (by decide) (by decide) (Nat.le_of_ble_eq_true rfl) ?_
    refine Z.iret (pc := 28) (ty := .int) dX8_least_28 rfl rfl ?_
    exact kd (S' := ((len, pg), (n, k, s, f, hr, fd, ho), (sz, sg, so, se), kept, (ihr, ik, js, ifd, iho, (isz, isg, iso, ise)), np)) (by simp [a_least, n0]) ⟨hP.mv rfl rfl, hG.mv rfl rfl rfl rfl, hE.mv rfl rfl rfl rfl, hK.mv rfl, hI.mv rfl rfl rfl rfl rfl rfl rfl rfl, hX.mv (show t 0 = 0 from TB_0 hT) rfl rfl rfl rfl rfl rfl hX.2.2.2.2.1 hX.2.2.2.2.2.1 hX.2.2.2.2.2.2.1⟩ (by repeat (first | refine fr_up ?_ (by decide) | refine fr_row ?_ (by decide) | exact fr_rf))
  · have n0 : n = 0 := by have := of_decide_eq_false c4; omega
    refine Z.bipush (pc := 7) (v := (-103)) dX8_least_7 (by decide) ?_
    refine Z.iret (pc := 9) (ty := .int) dX8_least_9 rfl rfl ?_
    exact kd (S' := ((len, pg), (n, k, s, f, hr, fd, ho), (sz, sg, so, se), kept, (ihr, ik, js, ifd, iho, (isz, isg, iso, ise)), np)) (by simp [a_least, n0]) hD fr_rf
set_option maxRecDepth 100000 in
set_option maxHeartbeats 400000 in
theorem l_X8_ends {h : hp} {n : Nat} {k f : zF} {X : Int32} {K : Option Value → hp → Prop} (hK : ∀ hh st, TR h n k f hh st → K (some (.int X)) hh) : ∀ (r i : Nat) (hh : hp) (st : zF × Nat × Nat), i + r = 61 → TR h n k f hh st → enI k f n r i st = X → Z yX8_ends cX8_ends 2 (some .int) 5 (K) 23 [(0, .ref 0), (1, .int (nI i))] [] hh := by
  intro r
  induction r with
  | zero =>
    intro i hh st hi hT hX
    obtain rfl : 61 = i := by omega
    refine Z.iload_n (pc := 23) (i := 1) dX8_ends_23 rfl rfl ?_
    refine Z.bipush (pc := 24) (v := (nI 60)) dX8_ends_24 (by decide) ?_
    refine Z.icmp_gt_t (pc := 26) (tgt := 55) dX8_ends_26 (by decide) (nI_lt (by omega) (by omega)) ?_
    refine Z.iconst (pc := 55) (v := (-1)) dX8_ends_55 (by decide) ?_
    refine Z.iret (pc := 56) (ty := .int) dX8_ends_56 rfl rfl ?_
    have e : (-1 : Int32) = X := by rw [← hX]; rfl
    rw [e]
    exact hK hh st hT
  | succ r ih =>
    intro i hh st hi hT hX
    refine Z.iload_n (pc := 23) (i := 1) dX8_ends_23 rfl rfl ?_
    refine Z.bipush (pc := 24) (v := (nI 60)) dX8_ends_24 (by decide) ?_
    refine Z.icmp_gt_f (pc := 26) (tgt := 55) dX8_ends_26 (by decide) (nI_nlt (by omega) (by decide)) ?_
    refine Z.aload_n (pc := 29) (i := 0) dX8_ends_29 rfl rfl ?_
    refine Z.getR (pc := 30) dX8_ends_30 zf_X8_36 rfl rfl ?_
    refine Z.getIv (pc := 33) dX8_ends_33 zf_X8_129 rfl rfl hT.1.2.1 ?_
    refine Z.if_ne (pc := 36) (tgt := 41) dX8_ends_36 (by decide) (fun c36 => ?_) (fun c36 => ?_)
    · have q : ¬ st.2.1 = 0 := fun z => c36 (by rw [z]; rfl)
      refine Z.aload_n (pc := 41) (i := 0) dX8_ends_41 rfl rfl ?_
      refine Z.getR (pc := 42) dX8_ends_42 zf_X8_36 rfl rfl ?_
      refine Z.callVi (pc := 45) dX8_ends_45 (c_X6_letHourPass (o := 19) (Or.inr (Or.inr rfl)) hT.1 hT.2.1 hT.2.2.1) zm_X8_146 zv_X6_letHourPass rfl rfl rfl rfl (by decide) (by decide) (Nat.le_of_ble_eq_true rfl) ?_
      refine Z.pop (pc := 48) dX8_ends_48 rfl ?_
      refine Z.iinc (pc := 49) (i := 1) (v := (nI (i + 1))) dX8_ends_49 rfl (by exact ii_1 i) (by decide) rfl ?_
      refine Z.goto (pc := 52) (tgt := 23) dX8_ends_52 (by decide) ?_
      exact ih (i + 1) _ _ (by omega) (TR_step hT) (by rw [← hX, enI, if_neg q])
    · have q : st.2.1 = 0 := (nI_0' (Nat.lt_of_lt_of_le hT.1.2.2.1 (Nat.le_trans (p8 hT.1.2.2.2.1.1) (by decide)))).mp c36
      refine Z.iload_n (pc := 39) (i := 1) dX8_ends_39 rfl rfl ?_
      refine Z.iret (pc := 40) (ty := .int) dX8_ends_40 rfl rfl ?_
      have e : nI i = X := by rw [← hX, enI, if_pos q]
      rw [e]
      exact hK hh st hT
set_option maxRecDepth 100000 in
set_option maxHeartbeats 400000 in
theorem c_X8_ends {h : hp} {len n hr fd ho sz ihr ifd iho isz np : Nat} {pg k s f sg so se ik js isg iso ise : zF} {kept : Bool} (hD : D h ((len, pg), (n, k, s, f, hr, fd, ho), (sz, sg, so, se), kept, (ihr, ik, js, ifd, iho, (isz, isg, iso, ise)), np)) (hS : OkS ((len, pg), (n, k, s, f, hr, fd, ho), (sz, sg, so, se), kept, (ihr, ik, js, ifd, iho, (isz, isg, iso, ise)), np))  : Cn yX8_ends cX8_ends 2 (some .int) 5 [.ref 0] h (KD h (.int (a_ends ((len, pg), (n, k, s, f, hr, fd, ho), (sz, sg, so, se), kept, (ihr, ik, js, ifd, iho, (isz, isg, iso, ise)), np)).1) (a_ends ((len, pg), (n, k, s, f, hr, fd, ho), (sz, sg, so, se), kept, (ihr, ik, js, ifd, iho, (isz, isg, iso, ise)), np)).2) := by
  obtain ⟨hP, hG, hE, hK, hI, hX⟩ := id hD
  obtain ⟨⟨sp1, sp2⟩, ⟨sk, shl, sfd, sho, zk, zs, zf⟩, sE, sI⟩ := id hS
  have hR := hG.Rm shl sk
  have hn8 := sk.1
  have hp8 := p8 hn8
  have z1 : va_cpy (h.1 4) (h.1 20) 0 0 8 = h.1 4 := cpy8 (by rw [hG.2.2.2.2.1]; exact zk) hX.2.2.2.2.1
  have z2 : va_cpy (h.1 5) (h.1 21) 0 0 8 = h.1 5 := cpy8 (by rw [hG.2.2.2.2.2.1]; exact zs) hX.2.2.2.2.2.1
  have z3 : va_cpy (h.1 6) (h.1 22) 0 0 8 = h.1 6 := cpy8 (by rw [hG.2.2.2.2.2.2]; exact zf) hX.2.2.2.2.2.2.1
  refine Cn.of (by decide) (Nat.le_of_ble_eq_true rfl) ?_
  refine Z.eqL (lv' := [(0, .ref 0)]) rfl ?_
  refine Z.aload_n (pc := 0) (i := 0) dX8_ends_0 rfl rfl ?_
  refine Z.callVi (pc := 1) dX8_ends_1 (c_X8_hasParty hG.1 hn8) zm_X8_140 zv_X8_hasParty rfl rfl rfl rfl (by decide) (by decide) (Nat.le_of_ble_eq_true rfl) ?_
  refine Z.if_ne_b (pc := 4) (tgt := 10) dX8_ends_4 (by decide) (fun c4 => ?_) (fun c4 => ?_)
  · have n0 : ¬ n = 0 := by have := of_decide_eq_true c4; omega
    refine Z.aload_n (pc := 10) (i := 0) dX8_ends_10 rfl rfl ?_
    refine Z.getR (pc := 11) dX8_ends_11 zf_X8_36 rfl rfl ?_
    refine Z.aload_n (pc := 14) (i := 0) dX8_ends_14 rfl rfl ?_
    refine Z.getR (pc := 15) dX8_ends_15 zf_X8_19 rfl rfl ?_
    refine Z.callVv (pc := 18) dX8_ends_18 (c_X6_copyFrom_19_3 z1 z2 z3) zm_X8_172 zv_X6_copyFrom rfl rfl rfl rfl (by decide) (by decide) (Nat.le_of_ble_eq_true rfl) ?_
    refine Z.iconst (pc := 21) (v := (nI 0)) dX8_ends_21 (by decide) ?_
    refine Z.istore_n (pc := 22) (i := 1) dX8_ends_22 rfl (by decide) rfl ?_
    refine l_X8_ends (X := enI k f n 61 0 (s, hr, fd)) (fun hh st hT => ?_) 61 0 _ (s, hr, fd) rfl (TR_0 hR hG.2.2.1 sfd zs) rfl
    obtain ⟨g1, g2⟩ := TR_D hD zk zf hT
    exact kd (S' := ((len, pg), (n, k, s, f, hr, fd, ho), (sz, sg, so, se), kept, (ihr, ik, js, ifd, iho, (isz, isg, iso, ise)), np)) (by simp [a_ends, n0]) g1 g2
  · have n0 : n = 0 := by have := of_decide_eq_false c4; omega
    refine Z.bipush (pc := 7) (v := (-103)) dX8_ends_7 (by decide) ?_
    refine Z.iret (pc := 9) (ty := .int) dX8_ends_9 rfl rfl ?_
    exact kd (S' := ((len, pg), (n, k, s, f, hr, fd, ho), (sz, sg, so, se), kept, (ihr, ik, js, ifd, iho, (isz, isg, iso, ise)), np)) (by simp [a_ends, n0]) hD fr_rf
set_option maxRecDepth 100000 in
set_option maxHeartbeats 400000 in
theorem c_X8_odds {h : hp} {len n hr fd ho sz ihr ifd iho isz np : Nat} {pg k s f sg so se ik js isg iso ise : zF} {kept : Bool} (hD : D h ((len, pg), (n, k, s, f, hr, fd, ho), (sz, sg, so, se), kept, (ihr, ik, js, ifd, iho, (isz, isg, iso, ise)), np)) (hS : OkS ((len, pg), (n, k, s, f, hr, fd, ho), (sz, sg, so, se), kept, (ihr, ik, js, ifd, iho, (isz, isg, iso, ise)), np)) (g t w : Int32)  : Cn yX8_odds cX8_odds 4 (some .int) 4 [.ref 0, .int g, .int t, .int w] h (KD h (.int (a_odds ((len, pg), (n, k, s, f, hr, fd, ho), (sz, sg, so, se), kept, (ihr, ik, js, ifd, iho, (isz, isg, iso, ise)), np) g t w).1) (a_odds ((len, pg), (n, k, s, f, hr, fd, ho), (sz, sg, so, se), kept, (ihr, ik, js, ifd, iho, (isz, isg, iso, ise)), np) g t w).2) := by
  obtain ⟨hP, hG, hE, hK, hI, hX⟩ := id hD
  obtain ⟨⟨sp1, sp2⟩, ⟨sk, shl, sfd, sho, zk, zs, zf⟩, sE, sI⟩ := id hS
  have hR := hG.Rm shl sk
  have hn8 := sk.1
  have hp8 := p8 hn8
  refine Cn.of (by decide) (Nat.le_of_ble_eq_true rfl) ?_
  refine Z.eqL (lv' := [(0, .ref 0), (1, .int g), (2, .int t), (3, .int w)]) rfl ?_
  refine Z.aload_n (pc := 0) (i := 0) dX8_odds_0 rfl rfl ?_
  refine Z.getR (pc := 1) dX8_odds_1 zf_X8_19 rfl rfl ?_
  refine Z.iload_n (pc := 4) (i := 1) dX8_odds_4 rfl rfl ?_
  refine Z.callVi (pc := 5) dX8_odds_5 (c_X6_hasGuest (o := 3) (Or.inl rfl) hR g) zm_X8_101 zv_X6_hasGuest rfl rfl rfl rfl (by decide) (by decide) (Nat.le_of_ble_eq_true rfl) ?_
  refine Z.if_ne_b (pc := 8) (tgt := 14) dX8_odds_8 (by decide) (fun c8 => ?_) (fun c8 => ?_)
  · have q : gB n g = true := c8
    obtain ⟨j, hj, rfl⟩ := gB_of q hn8
    have ej : (nI j).toNatClampNeg = j := nI_clamp (by omega)
    refine Z.iload_n (pc := 14) (i := 2) dX8_odds_14 rfl rfl ?_
    refine Z.if_lt (pc := 15) (tgt := 33) dX8_odds_15 (by decide) (fun c15 => ?_) (fun c15 => ?_)
    · have q2 : (inR t 0 10 && inR w 0 1) = false := by rw [show inR t 0 10 = false from decide_eq_false (fun v => lt_nle c15 v.1)]; rfl
      refine Z.bipush (pc := 33) (v := (-102)) dX8_odds_33 (by decide) ?_
      refine Z.iret (pc := 35) (ty := .int) dX8_odds_35 rfl rfl ?_
      exact kd (S' := ((len, pg), (n, k, s, f, hr, fd, ho), (sz, sg, so, se), kept, (ihr, ik, js, ifd, iho, (isz, isg, iso, ise)), np)) (by rw [a_odds, q, q2]; rfl) hD fr_rf
    · refine Z.iload_n (pc := 18) (i := 2) dX8_odds_18 rfl rfl ?_
      refine Z.bipush (pc := 19) (v := (10)) dX8_odds_19 (by decide) ?_
      refine Z.icmp_gt (pc := 21) (tgt := 33) dX8_odds_21 (by decide) (fun c21 => ?_) (fun c21 => ?_)
      · have q2 : (inR t 0 10 && inR w 0 1) = false := by rw [show inR t 0 10 = false from decide_eq_false (fun v => lt_nle c21 v.2)]; rfl
        refine Z.bipush (pc := 33) (v := (-102)) dX8_odds_33 (by decide) ?_
        refine Z.iret (pc := 35) (ty := .int) dX8_odds_35 rfl rfl ?_
        exact kd (S' := ((len, pg), (n, k, s, f, hr, fd, ho), (sz, sg, so, se), kept, (ihr, ik, js, ifd, iho, (isz, isg, iso, ise)), np)) (by rw [a_odds, q, q2]; rfl) hD fr_rf
      · have qt : inR t 0 10 = true := decide_eq_true ⟨nlt c15, nlt c21⟩
        refine Z.iload_n (pc := 24) (i := 3) dX8_odds_24 rfl rfl ?_
        refine Z.if_lt (pc := 25) (tgt := 33) dX8_odds_25 (by decide) (fun c25 => ?_) (fun c25 => ?_)
        · have q2 : (inR t 0 10 && inR w 0 1) = false := by rw [show inR w 0 1 = false from decide_eq_false (fun v => lt_nle c25 v.1)]; simp
          refine Z.bipush (pc := 33) (v := (-102)) dX8_odds_33 (by decide) ?_
          refine Z.iret (pc := 35) (ty := .int) dX8_odds_35 rfl rfl ?_
          exact kd (S' := ((len, pg), (n, k, s, f, hr, fd, ho), (sz, sg, so, se), kept, (ihr, ik, js, ifd, iho, (isz, isg, iso, ise)), np)) (by rw [a_odds, q, q2]; rfl) hD fr_rf
        · refine Z.iload_n (pc := 28) (i := 3) dX8_odds_28 rfl rfl ?_
          refine Z.iconst (pc := 29) (v := (1)) dX8_odds_29 (by decide) ?_
          refine Z.icmp_le (pc := 30) (tgt := 36) dX8_odds_30 (by decide) (fun c30 => ?_) (fun c30 => ?_)
          · have q2 : (inR t 0 10 && inR w 0 1) = true := by rw [qt, show inR w 0 1 = true from decide_eq_true ⟨nlt c25, c30⟩]; rfl
            obtain ⟨v, hv, rfl⟩ := inR_of (b := 10) (by decide) qt
            have ev : (nI v).toNatClampNeg = v := nI_clamp (by omega)
            refine Z.aload_n (pc := 36) (i := 0) dX8_odds_36 rfl rfl ?_
            refine Z.getR (pc := 37) dX8_odds_37 zf_X8_19 rfl rfl ?_
            refine Z.iload_n (pc := 40) (i := 1) dX8_odds_40 rfl rfl ?_
            refine Z.callVi (pc := 41) dX8_odds_41 (c_X6_isHere (o := 3) (Or.inl rfl) hR j (by omega)) zm_X8_149 zv_X6_isHere rfl rfl rfl rfl (by decide) (by decide) (Nat.le_of_ble_eq_true rfl) ?_
            refine Z.if_ne_b (pc := 44) (tgt := 50) dX8_odds_44 (by decide) (fun c44 => ?_) (fun c44 => ?_)
            · refine Z.aload_n (pc := 50) (i := 0) dX8_odds_50 rfl rfl ?_
              refine Z.getR (pc := 51) dX8_odds_51 zf_X8_42 rfl rfl ?_
              refine Z.aload_n (pc := 54) (i := 0) dX8_odds_54 rfl rfl ?_
              refine Z.getR (pc := 55) dX8_odds_55 zf_X8_19 rfl rfl ?_
              refine Z.callV (pc := 58) dX8_odds_58 (c_X5_find hR hX.1) zm_X8_165 zv_X5_find rfl rfl rfl rfl (by decide) (by decide) (Nat.le_of_ble_eq_true rfl) (fun r58 h58 k58 => ?_)
              obtain ⟨rfl, t, rfl, hT⟩ := k58
              have hpp : 1 ≤ pop hr := pop_pos (by omega) (fun z => by rw [z, Nat.zero_testBit] at c44; cases c44)
              refine Z.aload_n (pc := 61) (i := 0) dX8_odds_61 rfl rfl ?_
              refine Z.getR (pc := 62) dX8_odds_62 zf_X8_49 rfl rfl ?_
              refine Z.aload_n (pc := 65) (i := 0) dX8_odds_65 rfl rfl ?_
              refine Z.getR (pc := 66) dX8_odds_66 zf_X8_42 rfl rfl ?_
              refine Z.iload_n (pc := 69) (i := 1) dX8_odds_69 rfl rfl ?_
              refine Z.iload_n (pc := 70) (i := 2) dX8_odds_70 rfl rfl ?_
              refine Z.callVv (pc := 71) dX8_odds_71 (c_X0_find (by exact rfl) (by omega) (by exact hT) j v (by omega) hv hpp) zm_X8_175 zv_X0_find rfl rfl rfl rfl (by decide) (by decide) (Nat.le_of_ble_eq_true rfl) ?_
              refine Z.iload_n (pc := 74) (i := 3) dX8_odds_74 rfl rfl ?_
              refine Z.if_ne (pc := 75) (tgt := 88) dX8_odds_75 (by decide) (fun c75 => ?_) (fun c75 => ?_)
              · refine Z.aload_n (pc := 88) (i := 0) dX8_odds_88 rfl rfl ?_
                refine Z.getR (pc := 89) dX8_odds_89 zf_X8_49 rfl rfl ?_
                refine Z.getIv (pc := 92) dX8_odds_92 zf_X8_181 rfl rfl (show _ = oddB k s f n hr j v from rfl) ?_
                refine Z.iret (pc := 95) (ty := .int) dX8_odds_95 rfl rfl ?_
                refine kd (S' := ((len, pg), (n, k, s, f, hr, fd, ho), (sz, sg, so, se), kept, (ihr, ik, js, ifd, iho, (isz, isg, iso, ise)), np)) ?_ ⟨hP.mv rfl rfl, hG.mv rfl rfl rfl rfl, hE.mv rfl rfl rfl rfl, hK.mv rfl, hI.mv rfl rfl rfl rfl rfl rfl rfl rfl, hX.mv (show t 0 = 0 from TB_0 hT) rfl rfl rfl rfl rfl rfl hX.2.2.2.2.1 hX.2.2.2.2.2.1 hX.2.2.2.2.2.2.1⟩ (fr_chX (fr_row (fr_up fr_rf (by decide)) (by decide)))
                rw [a_odds, q, q2, ej, ev, c44]
                first | (simp [c75]; done) | skip
              · refine Z.aload_n (pc := 78) (i := 0) dX8_odds_78 rfl rfl ?_
                refine Z.getR (pc := 79) dX8_odds_79 zf_X8_49 rfl rfl ?_
                refine Z.getIv (pc := 82) dX8_odds_82 zf_X8_178 rfl rfl (show _ = oddA k s f n hr j v from rfl) ?_
                refine Z.goto (pc := 85) (tgt := 95) dX8_odds_85 (by decide) ?_
                refine Z.iret (pc := 95) (ty := .int) dX8_odds_95 rfl rfl ?_
                refine kd (S' := ((len, pg), (n, k, s, f, hr, fd, ho), (sz, sg, so, se), kept, (ihr, ik, js, ifd, iho, (isz, isg, iso, ise)), np)) ?_ ⟨hP.mv rfl rfl, hG.mv rfl rfl rfl rfl, hE.mv rfl rfl rfl rfl, hK.mv rfl, hI.mv rfl rfl rfl rfl rfl rfl rfl rfl, hX.mv (show t 0 = 0 from TB_0 hT) rfl rfl rfl rfl rfl rfl hX.2.2.2.2.1 hX.2.2.2.2.2.1 hX.2.2.2.2.2.2.1⟩ (fr_chX (fr_row (fr_up fr_rf (by decide)) (by decide)))
                rw [a_odds, q, q2, ej, ev, c44]
                first | (simp [c75]; done) | skip
            · refine Z.bipush (pc := 47) (v := (-103)) dX8_odds_47 (by decide) ?_
              refine Z.iret (pc := 49) (ty := .int) dX8_odds_49 rfl rfl ?_
              exact kd (S' := ((len, pg), (n, k, s, f, hr, fd, ho), (sz, sg, so, se), kept, (ihr, ik, js, ifd, iho, (isz, isg, iso, ise)), np)) (by rw [a_odds, q, q2, ej, c44]; rfl) hD fr_rf
          · have q2 : (inR t 0 10 && inR w 0 1) = false := by rw [show inR w 0 1 = false from decide_eq_false (fun v => c30 v.2)]; simp
            refine Z.bipush (pc := 33) (v := (-102)) dX8_odds_33 (by decide) ?_
            refine Z.iret (pc := 35) (ty := .int) dX8_odds_35 rfl rfl ?_
            exact kd (S' := ((len, pg), (n, k, s, f, hr, fd, ho), (sz, sg, so, se), kept, (ihr, ik, js, ifd, iho, (isz, isg, iso, ise)), np)) (by rw [a_odds, q, q2]; rfl) hD fr_rf
  · have q : gB n g = false := c8
    refine Z.bipush (pc := 11) (v := (-101)) dX8_odds_11 (by decide) ?_
    refine Z.iret (pc := 13) (ty := .int) dX8_odds_13 rfl rfl ?_
    exact kd (S' := ((len, pg), (n, k, s, f, hr, fd, ho), (sz, sg, so, se), kept, (ihr, ik, js, ifd, iho, (isz, isg, iso, ise)), np)) (by simp [a_odds, q]) hD fr_rf
set_option maxRecDepth 100000 in
set_option maxHeartbeats 400000 in
theorem c_X8_see {h : hp} {len n hr fd ho sz ihr ifd iho isz np : Nat} {pg k s f sg so se ik js isg iso ise : zF} {kept : Bool} (hD : D h ((len, pg), (n, k, s, f, hr, fd, ho), (sz, sg, so, se), kept, (ihr, ik, js, ifd, iho, (isz, isg, iso, ise)), np)) (hS : OkS ((len, pg), (n, k, s, f, hr, fd, ho), (sz, sg, so, se), kept, (ihr, ik, js, ifd, iho, (isz, isg, iso, ise)), np)) (g t : Int32) (b : Bool)  : Cn yX8_see cX8_see 4 (some .int) 1 [.ref 0, .int g, .int t, .int (zb b)] h (KD h (.int (a_see ((len, pg), (n, k, s, f, hr, fd, ho), (sz, sg, so, se), kept, (ihr, ik, js, ifd, iho, (isz, isg, iso, ise)), np) g t b).1) (a_see ((len, pg), (n, k, s, f, hr, fd, ho), (sz, sg, so, se), kept, (ihr, ik, js, ifd, iho, (isz, isg, iso, ise)), np) g t b).2) := by
  obtain ⟨hP, hG, hE, hK, hI, hX⟩ := id hD
  obtain ⟨⟨sp1, sp2⟩, ⟨sk, shl, sfd, sho, zk, zs, zf⟩, sE, sI⟩ := id hS
  have hR := hG.Rm shl sk
  have hn8 := sk.1
  have hp8 := p8 hn8
  refine Cn.of (by decide) (Nat.le_of_ble_eq_true rfl) ?_
  refine Z.eqL (lv' := [(0, .ref 0), (1, .int g), (2, .int t), (3, .int (zb b))]) rfl ?_
  refine Z.aload_n (pc := 0) (i := 0) dX8_see_0 rfl rfl ?_
  refine Z.getR (pc := 1) dX8_see_1 zf_X8_19 rfl rfl ?_
  refine Z.iload_n (pc := 4) (i := 1) dX8_see_4 rfl rfl ?_
  refine Z.callVi (pc := 5) dX8_see_5 (c_X6_hasGuest (o := 3) (Or.inl rfl) hR g) zm_X8_101 zv_X6_hasGuest rfl rfl rfl rfl (by decide) (by decide) (Nat.le_of_ble_eq_true rfl) ?_
  refine Z.if_ne_b (pc := 8) (tgt := 14) dX8_see_8 (by decide) (fun c8 => ?_) (fun c8 => ?_)
  · have q : gB n g = true := c8
    obtain ⟨j, hj, rfl⟩ := gB_of q hn8
    have ej : (nI j).toNatClampNeg = j := nI_clamp (by omega)
    refine Z.iload_n (pc := 14) (i := 2) dX8_see_14 rfl rfl ?_
    refine Z.if_lt (pc := 15) (tgt := 24) dX8_see_15 (by decide) (fun c15 => ?_) (fun c15 => ?_)
    · have q2 : inR t 0 16 = false := decide_eq_false (fun v => lt_nle c15 v.1)
      refine Z.bipush (pc := 24) (v := (-102)) dX8_see_24 (by decide) ?_
      refine Z.iret (pc := 26) (ty := .int) dX8_see_26 rfl rfl ?_
      exact kd (S' := ((len, pg), (n, k, s, f, hr, fd, ho), (sz, sg, so, se), kept, (ihr, ik, js, ifd, iho, (isz, isg, iso, ise)), np)) (by simp [a_see, q, q2]) hD fr_rf
    · refine Z.iload_n (pc := 18) (i := 2) dX8_see_18 rfl rfl ?_
      refine Z.bipush (pc := 19) (v := (16)) dX8_see_19 (by decide) ?_
      refine Z.icmp_le (pc := 21) (tgt := 27) dX8_see_21 (by decide) (fun c21 => ?_) (fun c21 => ?_)
      · have q2 : inR t 0 16 = true := decide_eq_true ⟨nlt c15, c21⟩
        refine Z.aload_n (pc := 27) (i := 0) dX8_see_27 rfl rfl ?_
        refine Z.getR (pc := 28) dX8_see_28 zf_X8_26 rfl rfl ?_
        refine Z.getIv (pc := 31) dX8_see_31 zf_X8_184 rfl rfl hE.1 ?_
        refine Z.bipush (pc := 34) (v := (nI 6)) dX8_see_34 (by decide) ?_
        refine Z.icmp_lt (pc := 36) (tgt := 42) dX8_see_36 (by decide) (fun c36 => ?_) (fun c36 => ?_)
        · have q3 : sz < 6 := (nI_ltI (by have := sE.1; omega) (by decide)).mp c36
          have q4 : ¬ sz = 6 := by omega
          refine Z.aload_n (pc := 42) (i := 0) dX8_see_42 rfl rfl ?_
          refine Z.getR (pc := 43) dX8_see_43 zf_X8_26 rfl rfl ?_
          refine Z.iload_n (pc := 46) (i := 1) dX8_see_46 rfl rfl ?_
          refine Z.iload_n (pc := 47) (i := 2) dX8_see_47 rfl rfl ?_
          refine Z.iload_n (pc := 48) (i := 3) dX8_see_48 rfl rfl ?_
          refine Z.callVi (pc := 49) dX8_see_49 (c_X7_add hE.1 sE.1 _ _ b q3) zm_X8_187 zv_X7_add rfl rfl rfl rfl (by decide) (by decide) (Nat.le_of_ble_eq_true rfl) ?_
          refine Z.iret (pc := 52) (ty := .int) dX8_see_52 rfl rfl ?_
          exact kd (S' := ((len, pg), (n, k, s, f, hr, fd, ho), (sz + 1, upd sg sz (nI j), upd so sz t, upd se sz (zb b)), kept, (ihr, ik, js, ifd, iho, (isz, isg, iso, ise)), np)) (by simp [a_see, q, q2, q4]) ⟨hP.mv rfl rfl, hG.mv rfl rfl rfl rfl, ⟨rfl, by show upd (h.1 8) sz _ = _; rw [hE.2.1], by show upd (h.1 9) sz _ = _; rw [hE.2.2.1], by show upd (h.1 10) sz _ = _; rw [hE.2.2.2]⟩, hK.mv rfl, hI.mv rfl rfl rfl rfl rfl rfl rfl rfl, hX.mv hX.1 rfl rfl rfl rfl rfl rfl hX.2.2.2.2.1 hX.2.2.2.2.2.1 hX.2.2.2.2.2.2.1⟩ (by repeat (first | refine fr_up ?_ (by decide) | refine fr_row ?_ (by decide) | exact fr_rf))
        · have q3 : sz = 6 := by have : ¬ sz < 6 := fun w => c36 (nI_lt w (by decide)); have := sE.1; omega
          refine Z.bipush (pc := 39) (v := (-104)) dX8_see_39 (by decide) ?_
          refine Z.iret (pc := 41) (ty := .int) dX8_see_41 rfl rfl ?_
          exact kd (S' := ((len, pg), (n, k, s, f, hr, fd, ho), (sz, sg, so, se), kept, (ihr, ik, js, ifd, iho, (isz, isg, iso, ise)), np)) (by simp [a_see, q, q2, q3]) hD fr_rf
      · have q2 : inR t 0 16 = false := decide_eq_false (fun v => c21 v.2)
        refine Z.bipush (pc := 24) (v := (-102)) dX8_see_24 (by decide) ?_
        refine Z.iret (pc := 26) (ty := .int) dX8_see_26 rfl rfl ?_
        exact kd (S' := ((len, pg), (n, k, s, f, hr, fd, ho), (sz, sg, so, se), kept, (ihr, ik, js, ifd, iho, (isz, isg, iso, ise)), np)) (by simp [a_see, q, q2]) hD fr_rf
  · have q : gB n g = false := c8
    refine Z.bipush (pc := 11) (v := (-101)) dX8_see_11 (by decide) ?_
    refine Z.iret (pc := 13) (ty := .int) dX8_see_13 rfl rfl ?_
    exact kd (S' := ((len, pg), (n, k, s, f, hr, fd, ho), (sz, sg, so, se), kept, (ihr, ik, js, ifd, iho, (isz, isg, iso, ise)), np)) (by simp [a_see, q]) hD fr_rf
set_option maxRecDepth 100000 in
set_option maxHeartbeats 400000 in
theorem c_X8_forget {h : hp} {len n hr fd ho sz ihr ifd iho isz np : Nat} {pg k s f sg so se ik js isg iso ise : zF} {kept : Bool} (hD : D h ((len, pg), (n, k, s, f, hr, fd, ho), (sz, sg, so, se), kept, (ihr, ik, js, ifd, iho, (isz, isg, iso, ise)), np)) (hS : OkS ((len, pg), (n, k, s, f, hr, fd, ho), (sz, sg, so, se), kept, (ihr, ik, js, ifd, iho, (isz, isg, iso, ise)), np))  : Cn yX8_forget cX8_forget 1 (some .int) 1 [.ref 0] h (KD h (.int (a_forget ((len, pg), (n, k, s, f, hr, fd, ho), (sz, sg, so, se), kept, (ihr, ik, js, ifd, iho, (isz, isg, iso, ise)), np)).1) (a_forget ((len, pg), (n, k, s, f, hr, fd, ho), (sz, sg, so, se), kept, (ihr, ik, js, ifd, iho, (isz, isg, iso, ise)), np)).2) := by
  obtain ⟨hP, hG, hE, hK, hI, hX⟩ := id hD
  obtain ⟨⟨sp1, sp2⟩, ⟨sk, shl, sfd, sho, zk, zs, zf⟩, sE, sI⟩ := id hS
  have hR := hG.Rm shl sk
  have hn8 := sk.1
  have hp8 := p8 hn8
  refine Cn.of (by decide) (Nat.le_of_ble_eq_true rfl) ?_
  refine Z.eqL (lv' := [(0, .ref 0)]) rfl ?_
  refine Z.aload_n (pc := 0) (i := 0) dX8_forget_0 rfl rfl ?_
  refine Z.getR (pc := 1) dX8_forget_1 zf_X8_26 rfl rfl ?_
  refine Z.callVi (pc := 4) dX8_forget_4 (c_X7_clear hE.1 sE.1) zm_X8_90 zv_X7_clear rfl rfl rfl rfl (by decide) (by decide) (Nat.le_of_ble_eq_true rfl) ?_
  refine Z.iret (pc := 7) (ty := .int) dX8_forget_7 rfl rfl ?_
  exact kd (S' := ((len, pg), (n, k, s, f, hr, fd, ho), (0, sg, so, se), kept, (ihr, ik, js, ifd, iho, (isz, isg, iso, ise)), np)) (rfl) ⟨hP.mv rfl rfl, hG.mv rfl rfl rfl rfl, ⟨rfl, hE.2⟩, hK.mv rfl, hI.mv rfl rfl rfl rfl rfl rfl rfl rfl, hX.mv hX.1 rfl rfl rfl rfl rfl rfl hX.2.2.2.2.1 hX.2.2.2.2.2.1 hX.2.2.2.2.2.2.1⟩ (by repeat (first | refine fr_up ?_ (by decide) | refine fr_row ?_ (by decide) | exact fr_rf))
