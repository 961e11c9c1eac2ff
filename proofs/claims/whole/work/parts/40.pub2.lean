set_option maxRecDepth 100000 in
set_option maxHeartbeats 400000 in
theorem c_X9_guestNow_0 {h : hp} {n hr : Nat} {k s f : zF} (hM : Mm h n hr k s f) {sz : Nat} {sg so se : zF} (hE : Me h sz sg so se) (sE : okE sz sg so se) (j : Nat) (hj : j < n)  : Cn yX9_guestNow cX9_guestNow 3 (some .int) 5 [.ref 30, .int (nI j), .int (nI 0)] h (z_eq (some (.int (tlI n k s f hr sz sg so se j 0))) h) := by
  have hn8 := hM.2.2.2.1.1
  have hp8 := p8 hn8
  have hlt := hM.2.2.1
  refine Cn.of (by decide) (Nat.le_of_ble_eq_true rfl) ?_
  refine Z.eqL (lv' := [(0, .ref 30), (1, .int (nI j)), (2, .int (nI 0))]) rfl ?_
  refine Z.iload_n (pc := 0) (i := 2) dX9_guestNow_0 rfl rfl ?_
  refine Z.tableIn (pc := 1) (off := 47) (tgt := 48) dX9_guestNow_1 (by decide) (by decide) (by decide) (by decide) ?_
  refine Z.aload_n (pc := 48) (i := 0) dX9_guestNow_48 rfl rfl ?_
  refine Z.getR (pc := 49) dX9_guestNow_49 zf_X9_7 rfl rfl ?_
  refine Z.iload_n (pc := 52) (i := 1) dX9_guestNow_52 rfl rfl ?_
  refine Z.iald (pc := 53) dX9_guestNow_53 rfl (by omega) (by decide) ?_
  refine Z.top (show _ = k j from congrFun hM.2.2.2.2.1 j) ?_
  refine Z.iret (pc := 54) (ty := .int) dX9_guestNow_54 rfl rfl ?_
  exact ⟨rfl, rfl⟩
set_option maxRecDepth 100000 in
set_option maxHeartbeats 400000 in
theorem c_X9_guestNow_1 {h : hp} {n hr : Nat} {k s f : zF} (hM : Mm h n hr k s f) {sz : Nat} {sg so se : zF} (hE : Me h sz sg so se) (sE : okE sz sg so se) (j : Nat) (hj : j < n)  : Cn yX9_guestNow cX9_guestNow 3 (some .int) 5 [.ref 30, .int (nI j), .int (nI 1)] h (z_eq (some (.int (tlI n k s f hr sz sg so se j 1))) h) := by
  have hn8 := hM.2.2.2.1.1
  have hp8 := p8 hn8
  have hlt := hM.2.2.1
  refine Cn.of (by decide) (Nat.le_of_ble_eq_true rfl) ?_
  refine Z.eqL (lv' := [(0, .ref 30), (1, .int (nI j)), (2, .int (nI 1))]) rfl ?_
  refine Z.iload_n (pc := 0) (i := 2) dX9_guestNow_0 rfl rfl ?_
  refine Z.tableIn (pc := 1) (off := 54) (tgt := 55) dX9_guestNow_1 (by decide) (by decide) (by decide) (by decide) ?_
  refine Z.aload_n (pc := 55) (i := 0) dX9_guestNow_55 rfl rfl ?_
  refine Z.getR (pc := 56) dX9_guestNow_56 zf_X9_13 rfl rfl ?_
  refine Z.iload_n (pc := 59) (i := 1) dX9_guestNow_59 rfl rfl ?_
  refine Z.iald (pc := 60) dX9_guestNow_60 rfl (by omega) (by decide) ?_
  refine Z.top (show _ = s j from congrFun hM.2.2.2.2.2.1 j) ?_
  refine Z.iret (pc := 61) (ty := .int) dX9_guestNow_61 rfl rfl ?_
  exact ⟨rfl, rfl⟩
set_option maxRecDepth 100000 in
set_option maxHeartbeats 400000 in
theorem c_X9_guestNow_2 {h : hp} {n hr : Nat} {k s f : zF} (hM : Mm h n hr k s f) {sz : Nat} {sg so se : zF} (hE : Me h sz sg so se) (sE : okE sz sg so se) (j : Nat) (hj : j < n)  : Cn yX9_guestNow cX9_guestNow 3 (some .int) 5 [.ref 30, .int (nI j), .int (nI 2)] h (z_eq (some (.int (tlI n k s f hr sz sg so se j 2))) h) := by
  have hn8 := hM.2.2.2.1.1
  have hp8 := p8 hn8
  have hlt := hM.2.2.1
  refine Cn.of (by decide) (Nat.le_of_ble_eq_true rfl) ?_
  refine Z.eqL (lv' := [(0, .ref 30), (1, .int (nI j)), (2, .int (nI 2))]) rfl ?_
  refine Z.iload_n (pc := 0) (i := 2) dX9_guestNow_0 rfl rfl ?_
  refine Z.tableIn (pc := 1) (off := 61) (tgt := 62) dX9_guestNow_1 (by decide) (by decide) (by decide) (by decide) ?_
  refine Z.aload_n (pc := 62) (i := 0) dX9_guestNow_62 rfl rfl ?_
  refine Z.getR (pc := 63) dX9_guestNow_63 zf_X9_16 rfl rfl ?_
  refine Z.iload_n (pc := 66) (i := 1) dX9_guestNow_66 rfl rfl ?_
  refine Z.iald (pc := 67) dX9_guestNow_67 rfl (by omega) (by decide) ?_
  refine Z.top (show _ = f j from congrFun hM.2.2.2.2.2.2 j) ?_
  refine Z.iret (pc := 68) (ty := .int) dX9_guestNow_68 rfl rfl ?_
  exact ⟨rfl, rfl⟩
set_option maxRecDepth 100000 in
set_option maxHeartbeats 400000 in
theorem c_X9_guestNow_3 {h : hp} {n hr : Nat} {k s f : zF} (hM : Mm h n hr k s f) {sz : Nat} {sg so se : zF} (hE : Me h sz sg so se) (sE : okE sz sg so se) (j : Nat) (hj : j < n)  : Cn yX9_guestNow cX9_guestNow 3 (some .int) 5 [.ref 30, .int (nI j), .int (nI 3)] h (z_eq (some (.int (tlI n k s f hr sz sg so se j 3))) h) := by
  have hn8 := hM.2.2.2.1.1
  have hp8 := p8 hn8
  have hlt := hM.2.2.1
  refine Cn.of (by decide) (Nat.le_of_ble_eq_true rfl) ?_
  refine Z.eqL (lv' := [(0, .ref 30), (1, .int (nI j)), (2, .int (nI 3))]) rfl ?_
  refine Z.iload_n (pc := 0) (i := 2) dX9_guestNow_0 rfl rfl ?_
  refine Z.tableIn (pc := 1) (off := 68) (tgt := 69) dX9_guestNow_1 (by decide) (by decide) (by decide) (by decide) ?_
  refine Z.aload_n (pc := 69) (i := 0) dX9_guestNow_69 rfl rfl ?_
  refine Z.getIv (pc := 70) dX9_guestNow_70 zf_X9_89 rfl rfl hM.2.1 ?_
  refine Z.iload_n (pc := 73) (i := 1) dX9_guestNow_73 rfl rfl ?_
  refine Z.callSi (pc := 74) dX9_guestNow_74 (c_X9_isIn hr j (by omega) (l31 hlt hn8)) zm_X9_105 zs_X9_isIn rfl rfl (by decide) (by decide) (Nat.le_of_ble_eq_true rfl) ?_
  refine Z.if_eq_b (pc := 77) (tgt := 84) dX9_guestNow_77 (by decide) (fun c77 => ?_) (fun c77 => ?_)
  · refine Z.iconst (pc := 84) (v := (0)) dX9_guestNow_84 (by decide) ?_
    refine Z.iret (pc := 85) (ty := .int) dX9_guestNow_85 rfl rfl ?_
    first | exact ⟨zb_f rfl c77, rfl⟩ | exact ⟨zb_t rfl c77, rfl⟩
  · refine Z.iconst (pc := 80) (v := (1)) dX9_guestNow_80 (by decide) ?_
    refine Z.goto (pc := 81) (tgt := 85) dX9_guestNow_81 (by decide) ?_
    refine Z.iret (pc := 85) (ty := .int) dX9_guestNow_85 rfl rfl ?_
    first | exact ⟨zb_f rfl c77, rfl⟩ | exact ⟨zb_t rfl c77, rfl⟩
set_option maxRecDepth 100000 in
set_option maxHeartbeats 400000 in
theorem c_X9_guestNow_4 {h : hp} {n hr : Nat} {k s f : zF} (hM : Mm h n hr k s f) {sz : Nat} {sg so se : zF} (hE : Me h sz sg so se) (sE : okE sz sg so se) (j : Nat) (hj : j < n)  : Cn yX9_guestNow cX9_guestNow 3 (some .int) 5 [.ref 30, .int (nI j), .int (nI 4)] h (z_eq (some (.int (tlI n k s f hr sz sg so se j 4))) h) := by
  have hn8 := hM.2.2.2.1.1
  have hp8 := p8 hn8
  have hlt := hM.2.2.1
  refine Cn.of (by decide) (Nat.le_of_ble_eq_true rfl) ?_
  refine Z.eqL (lv' := [(0, .ref 30), (1, .int (nI j)), (2, .int (nI 4))]) rfl ?_
  refine Z.iload_n (pc := 0) (i := 2) dX9_guestNow_0 rfl rfl ?_
  refine Z.tableIn (pc := 1) (off := 85) (tgt := 86) dX9_guestNow_1 (by decide) (by decide) (by decide) (by decide) ?_
  refine Z.aload_n (pc := 86) (i := 0) dX9_guestNow_86 rfl rfl ?_
  refine Z.iload_n (pc := 87) (i := 1) dX9_guestNow_87 rfl rfl ?_
  refine Z.callVi (pc := 88) dX9_guestNow_88 (c_X9_needs hM j hj) zm_X9_126 zv_X9_needs rfl rfl rfl rfl (by decide) (by decide) (Nat.le_of_ble_eq_true rfl) ?_
  refine Z.iret (pc := 91) (ty := .int) dX9_guestNow_91 rfl rfl ?_
  exact ⟨rfl, rfl⟩
set_option maxRecDepth 100000 in
set_option maxHeartbeats 400000 in
theorem c_X9_guestNow_5 {h : hp} {n hr : Nat} {k s f : zF} (hM : Mm h n hr k s f) {sz : Nat} {sg so se : zF} (hE : Me h sz sg so se) (sE : okE sz sg so se) (j : Nat) (hj : j < n)  : Cn yX9_guestNow cX9_guestNow 3 (some .int) 5 [.ref 30, .int (nI j), .int (nI 5)] h (z_eq (some (.int (tlI n k s f hr sz sg so se j 5))) h) := by
  have hn8 := hM.2.2.2.1.1
  have hp8 := p8 hn8
  have hlt := hM.2.2.1
  refine Cn.of (by decide) (Nat.le_of_ble_eq_true rfl) ?_
  refine Z.eqL (lv' := [(0, .ref 30), (1, .int (nI j)), (2, .int (nI 5))]) rfl ?_
  refine Z.iload_n (pc := 0) (i := 2) dX9_guestNow_0 rfl rfl ?_
  refine Z.tableIn (pc := 1) (off := 91) (tgt := 92) dX9_guestNow_1 (by decide) (by decide) (by decide) (by decide) ?_
  refine Z.aload_n (pc := 92) (i := 0) dX9_guestNow_92 rfl rfl ?_
  refine Z.iload_n (pc := 93) (i := 1) dX9_guestNow_93 rfl rfl ?_
  refine Z.callVi (pc := 94) dX9_guestNow_94 (c_X9_counts hM j (by omega)) zm_X9_108 zv_X9_counts rfl rfl rfl rfl (by decide) (by decide) (Nat.le_of_ble_eq_true rfl) ?_
  refine Z.iret (pc := 97) (ty := .int) dX9_guestNow_97 rfl rfl ?_
  exact ⟨rfl, rfl⟩
set_option maxRecDepth 100000 in
set_option maxHeartbeats 400000 in
theorem c_X9_guestNow_6 {h : hp} {n hr : Nat} {k s f : zF} (hM : Mm h n hr k s f) {sz : Nat} {sg so se : zF} (hE : Me h sz sg so se) (sE : okE sz sg so se) (j : Nat) (hj : j < n)  : Cn yX9_guestNow cX9_guestNow 3 (some .int) 5 [.ref 30, .int (nI j), .int (nI 6)] h (z_eq (some (.int (tlI n k s f hr sz sg so se j 6))) h) := by
  have hn8 := hM.2.2.2.1.1
  have hp8 := p8 hn8
  have hlt := hM.2.2.1
  refine Cn.of (by decide) (Nat.le_of_ble_eq_true rfl) ?_
  refine Z.eqL (lv' := [(0, .ref 30), (1, .int (nI j)), (2, .int (nI 6))]) rfl ?_
  refine Z.iload_n (pc := 0) (i := 2) dX9_guestNow_0 rfl rfl ?_
  refine Z.tableIn (pc := 1) (off := 97) (tgt := 98) dX9_guestNow_1 (by decide) (by decide) (by decide) (by decide) ?_
  refine Z.aload_n (pc := 98) (i := 0) dX9_guestNow_98 rfl rfl ?_
  refine Z.iload_n (pc := 99) (i := 1) dX9_guestNow_99 rfl rfl ?_
  refine Z.callVi (pc := 100) dX9_guestNow_100 (c_X9_shynessOf hM j hj hE sE) zm_X9_135 zv_X9_shynessOf rfl rfl rfl rfl (by decide) (by decide) (Nat.le_of_ble_eq_true rfl) ?_
  refine Z.iret (pc := 103) (ty := .int) dX9_guestNow_103 rfl rfl ?_
  exact ⟨rfl, rfl⟩
set_option maxRecDepth 100000 in
set_option maxHeartbeats 400000 in
theorem c_X9_guestNow_7 {h : hp} {n hr : Nat} {k s f : zF} (hM : Mm h n hr k s f) {sz : Nat} {sg so se : zF} (hE : Me h sz sg so se) (sE : okE sz sg so se) (j : Nat) (hj : j < n)  : Cn yX9_guestNow cX9_guestNow 3 (some .int) 5 [.ref 30, .int (nI j), .int (nI 7)] h (z_eq (some (.int (tlI n k s f hr sz sg so se j 7))) h) := by
  have hn8 := hM.2.2.2.1.1
  have hp8 := p8 hn8
  have hlt := hM.2.2.1
  refine Cn.of (by decide) (Nat.le_of_ble_eq_true rfl) ?_
  refine Z.eqL (lv' := [(0, .ref 30), (1, .int (nI j)), (2, .int (nI 7))]) rfl ?_
  refine Z.iload_n (pc := 0) (i := 2) dX9_guestNow_0 rfl rfl ?_
  refine Z.tableIn (pc := 1) (off := 103) (tgt := 104) dX9_guestNow_1 (by decide) (by decide) (by decide) (by decide) ?_
  refine Z.aload_n (pc := 104) (i := 0) dX9_guestNow_104 rfl rfl ?_
  refine Z.iload_n (pc := 105) (i := 1) dX9_guestNow_105 rfl rfl ?_
  refine Z.callVi (pc := 106) dX9_guestNow_106 (c_X9_askOf hM j hj hE sE) zm_X9_138 zv_X9_askOf rfl rfl rfl rfl (by decide) (by decide) (Nat.le_of_ble_eq_true rfl) ?_
  refine Z.iret (pc := 109) (ty := .int) dX9_guestNow_109 rfl rfl ?_
  exact ⟨rfl, rfl⟩
set_option maxRecDepth 100000 in
set_option maxHeartbeats 400000 in
theorem c_X9_guestNow_8 {h : hp} {n hr : Nat} {k s f : zF} (hM : Mm h n hr k s f) {sz : Nat} {sg so se : zF} (hE : Me h sz sg so se) (sE : okE sz sg so se) (j : Nat) (hj : j < n)  : Cn yX9_guestNow cX9_guestNow 3 (some .int) 5 [.ref 30, .int (nI j), .int (nI 8)] h (z_eq (some (.int (tlI n k s f hr sz sg so se j 8))) h) := by
  have hn8 := hM.2.2.2.1.1
  have hp8 := p8 hn8
  have hlt := hM.2.2.1
  refine Cn.of (by decide) (Nat.le_of_ble_eq_true rfl) ?_
  refine Z.eqL (lv' := [(0, .ref 30), (1, .int (nI j)), (2, .int (nI 8))]) rfl ?_
  refine Z.iload_n (pc := 0) (i := 2) dX9_guestNow_0 rfl rfl ?_
  refine Z.tableOut (pc := 1) (tgt := 110) dX9_guestNow_1 (by decide) (by decide) ?_
  refine Z.aload_n (pc := 110) (i := 0) dX9_guestNow_110 rfl rfl ?_
  refine Z.iload_n (pc := 111) (i := 1) dX9_guestNow_111 rfl rfl ?_
  refine Z.callVi (pc := 112) dX9_guestNow_112 (c_X9_homeFor hM j hj) zm_X9_141 zv_X9_homeFor rfl rfl rfl rfl (by decide) (by decide) (Nat.le_of_ble_eq_true rfl) ?_
  refine Z.iret (pc := 115) (ty := .int) dX9_guestNow_115 rfl rfl ?_
  exact ⟨rfl, rfl⟩
theorem c_X9_guestNow {h : hp} {n hr : Nat} {k s f : zF} (hM : Mm h n hr k s f) {sz : Nat} {sg so se : zF} (hE : Me h sz sg so se) (sE : okE sz sg so se) (j : Nat) (hj : j < n) (w : Nat) (hw : w ≤ 8) : Cn yX9_guestNow cX9_guestNow 3 (some .int) 5 [.ref 30, .int (nI j), .int (nI w)] h (z_eq (some (.int (tlI n k s f hr sz sg so se j w))) h) := by
  rcases (show w = 0 ∨ w = 1 ∨ w = 2 ∨ w = 3 ∨ w = 4 ∨ w = 5 ∨ w = 6 ∨ w = 7 ∨ w = 8 by omega) with rfl | rfl | rfl | rfl | rfl | rfl | rfl | rfl | rfl
  · exact c_X9_guestNow_0 hM hE sE j hj
  · exact c_X9_guestNow_1 hM hE sE j hj
  · exact c_X9_guestNow_2 hM hE sE j hj
  · exact c_X9_guestNow_3 hM hE sE j hj
  · exact c_X9_guestNow_4 hM hE sE j hj
  · exact c_X9_guestNow_5 hM hE sE j hj
  · exact c_X9_guestNow_6 hM hE sE j hj
  · exact c_X9_guestNow_7 hM hE sE j hj
  · exact c_X9_guestNow_8 hM hE sE j hj
set_option maxRecDepth 100000 in
set_option maxHeartbeats 400000 in
theorem c_X9_guest {h : hp} {len n hr fd ho sz ihr ifd iho isz np : Nat} {pg k s f sg so se ik js isg iso ise : zF} {kept : Bool} (hD : MS h ((len, pg), (n, k, s, f, hr, fd, ho), (sz, sg, so, se), kept, (ihr, ik, js, ifd, iho, (isz, isg, iso, ise)), np)) (hS : OkS ((len, pg), (n, k, s, f, hr, fd, ho), (sz, sg, so, se), kept, (ihr, ik, js, ifd, iho, (isz, isg, iso, ise)), np)) (g w : Int32)  : Cn yX9_guest cX9_guest 3 (some .int) 6 [.ref 30, .int g, .int w] h (KM h (.int (a_guest ((len, pg), (n, k, s, f, hr, fd, ho), (sz, sg, so, se), kept, (ihr, ik, js, ifd, iho, (isz, isg, iso, ise)), np) g w).1) (a_guest ((len, pg), (n, k, s, f, hr, fd, ho), (sz, sg, so, se), kept, (ihr, ik, js, ifd, iho, (isz, isg, iso, ise)), np) g w).2) := by
  obtain ⟨hP, hG, hE, hK, hI, hX⟩ := id hD
  obtain ⟨⟨sp1, sp2⟩, ⟨sk, shl, sfd, sho, zk, zs, zf⟩, sE, sI⟩ := id hS
  have hM := hG.Mm shl sk
  have hn8 := sk.1
  have hp8 := p8 hn8
  refine Cn.of (by decide) (Nat.le_of_ble_eq_true rfl) ?_
  refine Z.eqL (lv' := [(0, .ref 30), (1, .int g), (2, .int w)]) rfl ?_
  refine Z.aload_n (pc := 0) (i := 0) dX9_guest_0 rfl rfl ?_
  refine Z.iload_n (pc := 1) (i := 1) dX9_guest_1 rfl rfl ?_
  refine Z.callVi (pc := 2) dX9_guest_2 (c_X9_isGuest hM g) zm_X9_144 zv_X9_isGuest rfl rfl rfl rfl (by decide) (by decide) (Nat.le_of_ble_eq_true rfl) ?_
  refine Z.if_ne_b (pc := 5) (tgt := 13) dX9_guest_5 (by decide) (fun c5 => ?_) (fun c5 => ?_)
  · have q : gB n g = true := c5
    obtain ⟨j, hj, rfl⟩ := gB_of q hn8
    have ej : (nI j).toNatClampNeg = j := nI_clamp (by omega)
    refine Z.iload_n (pc := 13) (i := 2) dX9_guest_13 rfl rfl ?_
    refine Z.iconst (pc := 14) (v := (0)) dX9_guest_14 (by decide) ?_
    refine Z.bipush (pc := 15) (v := (8)) dX9_guest_15 (by decide) ?_
    refine Z.callSi (pc := 17) dX9_guest_17 (c_X9_within _ _ _) zm_X9_50 zs_X9_within rfl rfl (by decide) (by decide) (Nat.le_of_ble_eq_true rfl) ?_
    refine Z.if_eq_b (pc := 20) (tgt := 32) dX9_guest_20 (by decide) (fun c20 => ?_) (fun c20 => ?_)
    · have q2 : inR w 0 8 = false := c20
      refine Z.bipush (pc := 32) (v := (-102)) dX9_guest_32 (by decide) ?_
      refine Z.iret (pc := 34) (ty := .int) dX9_guest_34 rfl rfl ?_
      refine km (S' := ((len, pg), (n, k, s, f, hr, fd, ho), (sz, sg, so, se), kept, (ihr, ik, js, ifd, iho, (isz, isg, iso, ise)), np)) ?_ hD f9_rf
      first | (simp [a_guest, q]; done) | (simp [a_guest, q, q2]; done) | (simp [a_guest, q, q2, ej, ev]; done)
    · have q2 : inR w 0 8 = true := c20
      obtain ⟨v, hv, rfl⟩ := inR_of (b := 8) (by decide) q2
      have ev : (nI v).toNatClampNeg = v := nI_clamp (by omega)
      refine Z.aload_n (pc := 23) (i := 0) dX9_guest_23 rfl rfl ?_
      refine Z.iload_n (pc := 24) (i := 1) dX9_guest_24 rfl rfl ?_
      refine Z.iload_n (pc := 25) (i := 2) dX9_guest_25 rfl rfl ?_
      refine Z.callVi (pc := 26) dX9_guest_26 (c_X9_guestNow hM hE sE j hj v hv) zm_X9_148 zv_X9_guestNow rfl rfl rfl rfl (by decide) (by decide) (Nat.le_of_ble_eq_true rfl) ?_
      refine Z.goto (pc := 29) (tgt := 34) dX9_guest_29 (by decide) ?_
      refine Z.iret (pc := 34) (ty := .int) dX9_guest_34 rfl rfl ?_
      refine km (S' := ((len, pg), (n, k, s, f, hr, fd, ho), (sz, sg, so, se), kept, (ihr, ik, js, ifd, iho, (isz, isg, iso, ise)), np)) ?_ hD f9_rf
      first | (simp [a_guest, q]; done) | (simp [a_guest, q, q2]; done) | (simp [a_guest, q, q2, ej, ev]; done)
  · have q : gB n g = false := c5
    refine Z.bipush (pc := 8) (v := (-101)) dX9_guest_8 (by decide) ?_
    refine Z.goto (pc := 10) (tgt := 34) dX9_guest_10 (by decide) ?_
    refine Z.iret (pc := 34) (ty := .int) dX9_guest_34 rfl rfl ?_
    refine km (S' := ((len, pg), (n, k, s, f, hr, fd, ho), (sz, sg, so, se), kept, (ihr, ik, js, ifd, iho, (isz, isg, iso, ise)), np)) ?_ hD f9_rf
    first | (simp [a_guest, q]; done) | (simp [a_guest, q, q2]; done) | (simp [a_guest, q, q2, ej, ev]; done)
set_option maxRecDepth 100000 in
set_option maxHeartbeats 400000 in
theorem l_X9_party {h : hp} {n : Nat} {pg k s f : zF} (hn : h.1 30 1 = nI n) (hpg : h.1 37 = pg) (hn8 : n ≤ 8) {K : Option Value → hp → Prop} (hk : Z yX9_party cX9_party 3 (some .int) 4 K 137 [(0, .ref 30)] [] (z_r3 h 31 (rdR (pgK pg) k n) 32 (rdR (pgS pg) s n) 33 (rdR (pgF pg) f n))) : ∀ (r i : Nat) , i + r = n → Z yX9_party cX9_party 3 (some .int) 4 (K) 51 [(0, .ref 30), (1, .int (nI i))] [] (z_r3 h 31 (rdR (pgK pg) k i) 32 (rdR (pgS pg) s i) 33 (rdR (pgF pg) f i)) := by
  intro r
  induction r with
  | zero =>
    intro i hi
    obtain rfl : n = i := by omega
    refine Z.iload_n (pc := 51) (i := 1) dX9_party_51 rfl rfl ?_
    refine Z.aload_n (pc := 52) (i := 0) dX9_party_52 rfl rfl ?_
    refine Z.getIv (pc := 53) dX9_party_53 zf_X9_83 rfl rfl (show _ = nI n from hn) ?_
    refine Z.icmp_ge_t (pc := 56) (tgt := 137) dX9_party_56 (by decide) (nI_le (Nat.le_refl _) (by omega)) ?_
    refine Z.drop 1 ?_
    exact hk
  | succ r ih =>
    intro i hi
    refine Z.iload_n (pc := 51) (i := 1) dX9_party_51 rfl rfl ?_
    refine Z.aload_n (pc := 52) (i := 0) dX9_party_52 rfl rfl ?_
    refine Z.getIv (pc := 53) dX9_party_53 zf_X9_83 rfl rfl (show _ = nI n from hn) ?_
    refine Z.icmp_ge_f (pc := 56) (tgt := 137) dX9_party_56 (by decide) (nI_ge (by omega) (by omega)) ?_
    refine Z.iconst (pc := 59) (v := (nI 3)) dX9_party_59 (by decide) ?_
    refine Z.iconst (pc := 60) (v := (nI 4)) dX9_party_60 (by decide) ?_
    refine Z.iload_n (pc := 61) (i := 1) dX9_party_61 rfl rfl ?_
    refine Z.imul (pc := 62) dX9_party_62 ?_
    refine Z.top (pk_mul _ _) ?_
    refine Z.iadd (pc := 63) dX9_party_63 ?_
    refine Z.top (show _ = nI (3 + 4 * i) from nI_add _ _) ?_
    refine Z.istore_n (pc := 64) (i := 2) dX9_party_64 rfl (by decide) rfl ?_
    refine Z.aload_n (pc := 65) (i := 0) dX9_party_65 rfl rfl ?_
    refine Z.getR (pc := 66) dX9_party_66 zf_X9_7 rfl rfl ?_
    refine Z.iload_n (pc := 69) (i := 1) dX9_party_69 rfl rfl ?_
    refine Z.aload_n (pc := 70) (i := 0) dX9_party_70 rfl rfl ?_
    refine Z.getR (pc := 71) dX9_party_71 zf_X9_28 rfl rfl ?_
    refine Z.iload_n (pc := 74) (i := 2) dX9_party_74 rfl rfl ?_
    refine Z.bald (pc := 75) dX9_party_75 rfl (by omega) (by decide) ?_
    refine Z.top (show _ = pg (3 + 4 * i) from congrFun hpg _) ?_
    refine Z.callSi (pc := 76) dX9_party_76 (c_X9_kindBy _) zm_X9_62 zs_X9_kindBy rfl rfl (by decide) (by decide) (Nat.le_of_ble_eq_true rfl) ?_
    refine Z.top (show _ = pgK pg i from rfl) ?_
    refine Z.iast (pc := 79) dX9_party_79 rfl (by omega) (by decide) ?_
    rw [z_r3_1 (by decide) (by decide)]
    refine Z.aload_n (pc := 80) (i := 0) dX9_party_80 rfl rfl ?_
    refine Z.getR (pc := 81) dX9_party_81 zf_X9_13 rfl rfl ?_
    refine Z.iload_n (pc := 84) (i := 1) dX9_party_84 rfl rfl ?_
    refine Z.aload_n (pc := 85) (i := 0) dX9_party_85 rfl rfl ?_
    refine Z.getR (pc := 86) dX9_party_86 zf_X9_28 rfl rfl ?_
    refine Z.iload_n (pc := 89) (i := 2) dX9_party_89 rfl rfl ?_
    refine Z.iconst (pc := 90) (v := (nI 1)) dX9_party_90 (by decide) ?_
    refine Z.iadd (pc := 91) dX9_party_91 ?_
    refine Z.top (show _ = nI (3 + 4 * i + 1) from nI_add _ _) ?_
    refine Z.bald (pc := 92) dX9_party_92 rfl (by omega) (by decide) ?_
    refine Z.top (show _ = pg (3 + 4 * i + 1) from congrFun hpg _) ?_
    refine Z.bipush (pc := 93) (v := (48)) dX9_party_93 (by decide) ?_
    refine Z.isub (pc := 95) dX9_party_95 ?_
    refine Z.top (show _ = pgS pg i from rfl) ?_
    refine Z.iast (pc := 96) dX9_party_96 rfl (by omega) (by decide) ?_
    rw [z_r3_2 (by decide)]
    refine Z.aload_n (pc := 97) (i := 0) dX9_party_97 rfl rfl ?_
    refine Z.getR (pc := 98) dX9_party_98 zf_X9_16 rfl rfl ?_
    refine Z.iload_n (pc := 101) (i := 1) dX9_party_101 rfl rfl ?_
    refine Z.aload_n (pc := 102) (i := 0) dX9_party_102 rfl rfl ?_
    refine Z.getR (pc := 103) dX9_party_103 zf_X9_28 rfl rfl ?_
    refine Z.iload_n (pc := 106) (i := 2) dX9_party_106 rfl rfl ?_
    refine Z.iconst (pc := 107) (v := (nI 2)) dX9_party_107 (by decide) ?_
    refine Z.iadd (pc := 108) dX9_party_108 ?_
    refine Z.top (show _ = nI (3 + 4 * i + 2) from nI_add _ _) ?_
    refine Z.bald (pc := 109) dX9_party_109 rfl (by omega) (by decide) ?_
    refine Z.top (show _ = pg (3 + 4 * i + 2) from congrFun hpg _) ?_
    refine Z.bipush (pc := 110) (v := (45)) dX9_party_110 (by decide) ?_
    refine Z.icmp_ne (pc := 112) (tgt := 119) dX9_party_112 (by decide) (fun c112 => ?_) (fun c112 => ?_)
    · refine Z.aload_n (pc := 119) (i := 0) dX9_party_119 rfl rfl ?_
      refine Z.getR (pc := 120) dX9_party_120 zf_X9_28 rfl rfl ?_
      refine Z.iload_n (pc := 123) (i := 2) dX9_party_123 rfl rfl ?_
      refine Z.iconst (pc := 124) (v := (nI 2)) dX9_party_124 (by decide) ?_
      refine Z.iadd (pc := 125) dX9_party_125 ?_
      refine Z.top (show _ = nI (3 + 4 * i + 2) from nI_add _ _) ?_
      refine Z.bald (pc := 126) dX9_party_126 rfl (by omega) (by decide) ?_
      refine Z.top (show _ = pg (3 + 4 * i + 2) from congrFun hpg _) ?_
      refine Z.bipush (pc := 127) (v := (48)) dX9_party_127 (by decide) ?_
      refine Z.isub (pc := 129) dX9_party_129 ?_
      refine Z.top (show _ = pgF pg i from by unfold pgF; rw [if_neg c112]) ?_
      refine Z.iast (pc := 130) dX9_party_130 rfl (by omega) (by decide) ?_
      rw [z_r3_3, rdR_s, rdR_s, rdR_s]
      refine Z.iinc (pc := 131) (i := 1) (v := (nI (i + 1))) dX9_party_131 rfl (by exact ii_1 i) (by decide) rfl ?_
      refine Z.goto (pc := 134) (tgt := 51) dX9_party_134 (by decide) ?_
      refine Z.drop 2 ?_
      exact ih (i + 1) (by omega)
    · refine Z.iconst (pc := 115) (v := (-1)) dX9_party_115 (by decide) ?_
      refine Z.top (show (-1 : Int32) = pgF pg i from by unfold pgF; rw [if_pos c112]) ?_
      refine Z.goto (pc := 116) (tgt := 130) dX9_party_116 (by decide) ?_
      refine Z.iast (pc := 130) dX9_party_130 rfl (by omega) (by decide) ?_
      rw [z_r3_3, rdR_s, rdR_s, rdR_s]
      refine Z.iinc (pc := 131) (i := 1) (v := (nI (i + 1))) dX9_party_131 rfl (by exact ii_1 i) (by decide) rfl ?_
      refine Z.goto (pc := 134) (tgt := 51) dX9_party_134 (by decide) ?_
      refine Z.drop 2 ?_
      exact ih (i + 1) (by omega)
set_option maxRecDepth 100000 in
set_option maxHeartbeats 400000 in
theorem c_X9_party {h : hp} {len n hr fd ho sz ihr ifd iho isz np : Nat} {pg k s f sg so se ik js isg iso ise : zF} {kept : Bool} (hD : MS h ((len, pg), (n, k, s, f, hr, fd, ho), (sz, sg, so, se), kept, (ihr, ik, js, ifd, iho, (isz, isg, iso, ise)), np)) (hS : OkS ((len, pg), (n, k, s, f, hr, fd, ho), (sz, sg, so, se), kept, (ihr, ik, js, ifd, iho, (isz, isg, iso, ise)), np))  : Cn yX9_party cX9_party 3 (some .int) 4 [.ref 30] h (KM h (.int (a_party ((len, pg), (n, k, s, f, hr, fd, ho), (sz, sg, so, se), kept, (ihr, ik, js, ifd, iho, (isz, isg, iso, ise)), np)).1) (a_party ((len, pg), (n, k, s, f, hr, fd, ho), (sz, sg, so, se), kept, (ihr, ik, js, ifd, iho, (isz, isg, iso, ise)), np)).2) := by
  obtain ⟨hP, hG, hE, hK, hI, hX⟩ := id hD
  obtain ⟨⟨sp1, sp2⟩, ⟨sk, shl, sfd, sho, zk, zs, zf⟩, sE, sI⟩ := id hS
  have hM := hG.Mm shl sk
  have hn8 := sk.1
  have hp8 := p8 hn8
  refine Cn.of (by decide) (Nat.le_of_ble_eq_true rfl) ?_
  refine Z.eqL (lv' := [(0, .ref 30)]) rfl ?_
  refine Z.aload_n (pc := 0) (i := 0) dX9_party_0 rfl rfl ?_
  refine Z.callV (pc := 1) dX9_party_1 (c_X9_read ⟨hP.1, hP.2, sp1, sp2⟩) zm_X9_79 zv_X9_read rfl rfl rfl rfl (by decide) (by decide) (Nat.le_of_ble_eq_true rfl) (fun r1 h1 k1 => ?_)
  obtain ⟨e, g, rfl, hg⟩ := k1
  subst e
  refine Z.pop (pc := 4) dX9_party_4 rfl ?_
  refine Z.aload_n (pc := 5) (i := 0) dX9_party_5 rfl rfl ?_
  refine Z.getIv (pc := 6) dX9_party_6 zf_X9_72 rfl rfl (show _ = zb (isP pg len) from rfl) ?_
  refine Z.if_ne_b (pc := 9) (tgt := 15) dX9_party_9 (by decide) (fun c9 => ?_) (fun c9 => ?_)
  · obtain ⟨i1, i2, i3, i4⟩ := isP_of c9
    obtain ⟨a, ha, ea⟩ := pgD_ok c9
    have eg := hg c9
    subst eg
    obtain ⟨hK0, mk, mkp, hk1, hk2, hk3, hk4⟩ := id hK
    refine Z.aload_n (pc := 15) (i := 0) dX9_party_15 rfl rfl ?_
    refine Z.aload_n (pc := 16) (i := 0) dX9_party_16 rfl rfl ?_
    refine Z.getIv (pc := 17) dX9_party_17 zf_X9_69 rfl rfl rd_15 ?_
    refine Z.putI (pc := 20) dX9_party_20 zp_X9_83 rfl rfl rfl rfl ?_
    refine Z.aload_n (pc := 23) (i := 0) dX9_party_23 rfl rfl ?_
    refine Z.bipush (pc := 24) (v := (10)) dX9_party_24 (by decide) ?_
    refine Z.aload_n (pc := 26) (i := 0) dX9_party_26 rfl rfl ?_
    refine Z.getR (pc := 27) dX9_party_27 zf_X9_28 rfl rfl ?_
    refine Z.iconst (pc := 30) (v := (nI 0)) dX9_party_30 (by decide) ?_
    refine Z.bald (pc := 31) dX9_party_31 rfl (by omega) (by decide) ?_
    refine Z.top (show _ = pg 0 from congrFun hP.2 0) ?_
    refine Z.bipush (pc := 32) (v := (48)) dX9_party_32 (by decide) ?_
    refine Z.isub (pc := 34) dX9_party_34 ?_
    refine Z.imul (pc := 35) dX9_party_35 ?_
    refine Z.aload_n (pc := 36) (i := 0) dX9_party_36 rfl rfl ?_
    refine Z.getR (pc := 37) dX9_party_37 zf_X9_28 rfl rfl ?_
    refine Z.iconst (pc := 40) (v := (nI 1)) dX9_party_40 (by decide) ?_
    refine Z.bald (pc := 41) dX9_party_41 rfl (by omega) (by decide) ?_
    refine Z.top (show _ = pg 1 from congrFun hP.2 1) ?_
    refine Z.iadd (pc := 42) dX9_party_42 ?_
    refine Z.bipush (pc := 43) (v := (48)) dX9_party_43 (by decide) ?_
    refine Z.isub (pc := 45) dX9_party_45 ?_
    refine Z.top (pgD_eq) ?_
    refine Z.putI (pc := 46) dX9_party_46 zp_X9_86 rfl rfl rfl rfl ?_
    refine Z.iconst (pc := 49) (v := (nI 0)) dX9_party_49 (by decide) ?_
    refine Z.istore_n (pc := 50) (i := 1) dX9_party_50 rfl (by decide) rfl ?_
    have hk : Z yX9_party cX9_party 3 (some .int) 4 (KM h (.int (a_party ((len, pg), (n, k, s, f, hr, fd, ho), (sz, sg, so, se), kept, (ihr, ik, js, ifd, iho, (isz, isg, iso, ise)), np)).1) (a_party ((len, pg), (n, k, s, f, hr, fd, ho), (sz, sg, so, se), kept, (ihr, ik, js, ifd, iho, (isz, isg, iso, ise)), np)).2) 137 [(0, .ref 30)] [] (z_r3 (z_up (z_up (rdM h (isP pg len) ((len - 2) / 4)) 30 1 (nI ((len - 2) / 4))) 30 2 (pgD pg)) 31 (rdR (pgK pg) k ((len - 2) / 4)) 32 (rdR (pgS pg) s ((len - 2) / 4)) 33 (rdR (pgF pg) f ((len - 2) / 4))) := by
      refine Z.aload_n (pc := 137) (i := 0) dX9_party_137 rfl rfl ?_
      refine Z.iconst (pc := 138) (v := (nI 1)) dX9_party_138 (by decide) ?_
      refine Z.aload_n (pc := 139) (i := 0) dX9_party_139 rfl rfl ?_
      refine Z.getIv (pc := 140) dX9_party_140 zf_X9_83 rfl rfl (show _ = nI ((len - 2) / 4) from rfl) ?_
      refine Z.ishl (pc := 143) dX9_party_143 ?_
      refine Z.top (nb_shl (by omega)) ?_
      refine Z.iconst (pc := 144) (v := (1)) dX9_party_144 (by decide) ?_
      refine Z.isub (pc := 145) dX9_party_145 ?_
      refine Z.top (nb_pow1) ?_
      refine Z.putI (pc := 146) dX9_party_146 zp_X9_89 rfl rfl rfl rfl ?_
      refine Z.aload_n (pc := 149) (i := 0) dX9_party_149 rfl rfl ?_
      refine Z.iconst (pc := 150) (v := (0)) dX9_party_150 (by decide) ?_
      refine Z.putI (pc := 151) dX9_party_151 zp_X9_92 rfl rfl rfl rfl ?_
      refine Z.aload_n (pc := 154) (i := 0) dX9_party_154 rfl rfl ?_
      refine Z.dup (pc := 155) dX9_party_155 rfl ?_
      refine Z.getIv (pc := 156) dX9_party_156 zf_X9_95 rfl rfl (show _ = nI np from hK.1) ?_
      refine Z.iconst (pc := 159) (v := (1)) dX9_party_159 (by decide) ?_
      refine Z.iadd (pc := 160) dX9_party_160 ?_
      refine Z.top (nI_1 np) ?_
      refine Z.putI (pc := 161) dX9_party_161 zp_X9_95 rfl rfl rfl rfl ?_
      refine Z.aload_n (pc := 164) (i := 0) dX9_party_164 rfl rfl ?_
      refine Z.iconst (pc := 165) (v := (0)) dX9_party_165 (by decide) ?_
      refine Z.putI (pc := 166) dX9_party_166 zp_X9_98 rfl rfl rfl rfl ?_
      refine Z.aload_n (pc := 169) (i := 0) dX9_party_169 rfl rfl ?_
      refine Z.iconst (pc := 170) (v := (0)) dX9_party_170 (by decide) ?_
      refine Z.putI (pc := 171) dX9_party_171 zp_X9_54 rfl rfl rfl rfl ?_
      refine Z.aload_n (pc := 174) (i := 0) dX9_party_174 rfl rfl ?_
      refine Z.getIv (pc := 175) dX9_party_175 zf_X9_83 rfl rfl (show _ = nI ((len - 2) / 4) from rfl) ?_
      refine Z.iret (pc := 178) (ty := .int) dX9_party_178 rfl rfl ?_
      exact km (S' := ((0, pg), (((len - 2) / 4), rdR (pgK pg) k ((len - 2) / 4), rdR (pgS pg) s ((len - 2) / 4), rdR (pgF pg) f ((len - 2) / 4), 2 ^ ((len - 2) / 4) - 1, (pgD pg).toNatClampNeg, 0), (0, sg, so, se), false, (ihr, ik, js, ifd, iho, (isz, isg, iso, ise)), np + 1)) (by simp [a_party, c9]) ⟨⟨rfl, hP.2⟩, ⟨rfl, rfl, (by show pgD pg = _; rw [ea, nI_clamp (by omega)]), rfl, rfl, rfl, rfl⟩, ⟨rfl, hE.2⟩, ⟨rfl, mk, mkp, hk1, hk2, by omega, by rw [decide_eq_false (show ¬ mkp = np + 1 by omega)]; simp⟩, fun z => absurd z (by decide), hX.mv hX.1 rfl rfl rfl rfl rfl⟩ (by repeat (first | refine f9_up ?_ (by decide) | refine f9_r3 ?_ (by decide) (by decide) (by decide) | exact f9_rf))
    have e := l_X9_party (h := (z_up (z_up (rdM h (isP pg len) ((len - 2) / 4)) 30 1 (nI ((len - 2) / 4))) 30 2 (pgD pg))) (pg := pg) (k := k) (s := s) (f := f) (by exact rfl) (by exact hP.2) (show ((len - 2) / 4) ≤ 8 by omega) hk ((len - 2) / 4) 0 (by omega)
    rw [rdR_0, rdR_0, rdR_0, z_r3_id (by exact hG.2.2.2.2.1) (by exact hG.2.2.2.2.2.1) (by exact hG.2.2.2.2.2.2)] at e
    exact e
  · refine Z.bipush (pc := 12) (v := (-103)) dX9_party_12 (by decide) ?_
    refine Z.iret (pc := 14) (ty := .int) dX9_party_14 rfl rfl ?_
    exact km (S' := ((len, pg), (n, k, s, f, hr, fd, ho), (sz, sg, so, se), kept, (ihr, ik, js, ifd, iho, (isz, isg, iso, ise)), np)) (by simp [a_party, c9]) ⟨hP.mv rfl rfl, hG.mv rfl rfl rfl rfl rfl rfl rfl, hE.mv rfl rfl rfl rfl, hK.mv rfl rfl rfl, hI.mv rfl rfl rfl rfl rfl rfl rfl rfl rfl, hX.mv hX.1 rfl rfl rfl rfl rfl⟩ (f9_up (f9_up f9_rf (by decide)) (by decide))
set_option maxRecDepth 100000 in
set_option maxHeartbeats 400000 in
theorem l_X9_image1 {h : hp} {K : Option Value → hp → Prop} (hk : Z yX9_image cX9_image 2 (some .int) 0 K 93 [(0, .ref 30)] [] (z_r2 h 39 (rdR (h.1 31) (h.1 39) 8) 40 (rdR (h.1 32) (h.1 40) 8))) : ∀ (r i : Nat) , i + r = 8 → Z yX9_image cX9_image 2 (some .int) 0 (K) 57 [(0, .ref 30), (1, .int (nI i))] [] (z_r2 h 39 (rdR (h.1 31) (h.1 39) i) 40 (rdR (h.1 32) (h.1 40) i)) := by
  intro r
  induction r with
  | zero =>
    intro i hi
    obtain rfl : 8 = i := by omega
    refine Z.iload_n (pc := 57) (i := 1) dX9_image_57 rfl rfl ?_
    refine Z.bipush (pc := 58) (v := (nI 8)) dX9_image_58 (by decide) ?_
    refine Z.icmp_ge_t (pc := 60) (tgt := 93) dX9_image_60 (by decide) (nI_le (Nat.le_refl _) (by decide)) ?_
    refine Z.drop 1 ?_
    exact hk
  | succ r ih =>
    intro i hi
    refine Z.iload_n (pc := 57) (i := 1) dX9_image_57 rfl rfl ?_
    refine Z.bipush (pc := 58) (v := (nI 8)) dX9_image_58 (by decide) ?_
    refine Z.icmp_ge_f (pc := 60) (tgt := 93) dX9_image_60 (by decide) (nI_ge (by omega) (by decide)) ?_
    refine Z.aload_n (pc := 63) (i := 0) dX9_image_63 rfl rfl ?_
    refine Z.getR (pc := 64) dX9_image_64 zf_X9_35 rfl rfl ?_
    refine Z.iload_n (pc := 67) (i := 1) dX9_image_67 rfl rfl ?_
    refine Z.aload_n (pc := 68) (i := 0) dX9_image_68 rfl rfl ?_
    refine Z.getR (pc := 69) dX9_image_69 zf_X9_7 rfl rfl ?_
    refine Z.iload_n (pc := 72) (i := 1) dX9_image_72 rfl rfl ?_
    refine Z.iald (pc := 73) dX9_image_73 rfl (by omega) (by decide) ?_
    refine Z.top (show _ = h.1 31 i from rfl) ?_
    refine Z.iast (pc := 74) dX9_image_74 rfl (by omega) (by decide) ?_
    rw [z_r2_1 (by decide), rdR_s]
    refine Z.aload_n (pc := 75) (i := 0) dX9_image_75 rfl rfl ?_
    refine Z.getR (pc := 76) dX9_image_76 zf_X9_38 rfl rfl ?_
    refine Z.iload_n (pc := 79) (i := 1) dX9_image_79 rfl rfl ?_
    refine Z.aload_n (pc := 80) (i := 0) dX9_image_80 rfl rfl ?_
    refine Z.getR (pc := 81) dX9_image_81 zf_X9_13 rfl rfl ?_
    refine Z.iload_n (pc := 84) (i := 1) dX9_image_84 rfl rfl ?_
    refine Z.iald (pc := 85) dX9_image_85 rfl (by omega) (by decide) ?_
    refine Z.top (show _ = h.1 32 i from rfl) ?_
    refine Z.iast (pc := 86) dX9_image_86 rfl (by omega) (by decide) ?_
    rw [z_r2_2, rdR_s]
    refine Z.iinc (pc := 87) (i := 1) (v := (nI (i + 1))) dX9_image_87 rfl (by exact ii_1 i) (by decide) rfl ?_
    refine Z.goto (pc := 90) (tgt := 57) dX9_image_90 (by decide) ?_
    exact ih (i + 1) (by omega)
set_option maxRecDepth 100000 in
set_option maxHeartbeats 400000 in
theorem l_X9_image2 {h : hp} {K : Option Value → hp → Prop} (hk : Z yX9_image cX9_image 2 (some .int) 0 K 143 [(0, .ref 30)] [] (z_r3 h 41 (rdR (h.1 34) (h.1 41) 6) 42 (rdR (h.1 35) (h.1 42) 6) 43 (rdR (h.1 36) (h.1 43) 6))) : ∀ (r i : Nat) , i + r = 6 → Z yX9_image cX9_image 2 (some .int) 0 (K) 95 [(0, .ref 30), (1, .int (nI i))] [] (z_r3 h 41 (rdR (h.1 34) (h.1 41) i) 42 (rdR (h.1 35) (h.1 42) i) 43 (rdR (h.1 36) (h.1 43) i)) := by
  intro r
  induction r with
  | zero =>
    intro i hi
    obtain rfl : 6 = i := by omega
    refine Z.iload_n (pc := 95) (i := 1) dX9_image_95 rfl rfl ?_
    refine Z.bipush (pc := 96) (v := (nI 6)) dX9_image_96 (by decide) ?_
    refine Z.icmp_ge_t (pc := 98) (tgt := 143) dX9_image_98 (by decide) (nI_le (Nat.le_refl _) (by decide)) ?_
    refine Z.drop 1 ?_
    exact hk
  | succ r ih =>
    intro i hi
    refine Z.iload_n (pc := 95) (i := 1) dX9_image_95 rfl rfl ?_
    refine Z.bipush (pc := 96) (v := (nI 6)) dX9_image_96 (by decide) ?_
    refine Z.icmp_ge_f (pc := 98) (tgt := 143) dX9_image_98 (by decide) (nI_ge (by omega) (by decide)) ?_
    refine Z.aload_n (pc := 101) (i := 0) dX9_image_101 rfl rfl ?_
    refine Z.getR (pc := 102) dX9_image_102 zf_X9_41 rfl rfl ?_
    refine Z.iload_n (pc := 105) (i := 1) dX9_image_105 rfl rfl ?_
    refine Z.aload_n (pc := 106) (i := 0) dX9_image_106 rfl rfl ?_
    refine Z.getR (pc := 107) dX9_image_107 zf_X9_19 rfl rfl ?_
    refine Z.iload_n (pc := 110) (i := 1) dX9_image_110 rfl rfl ?_
    refine Z.iald (pc := 111) dX9_image_111 rfl (by omega) (by decide) ?_
    refine Z.top (show _ = h.1 34 i from rfl) ?_
    refine Z.iast (pc := 112) dX9_image_112 rfl (by omega) (by decide) ?_
    rw [z_r3_1 (by decide) (by decide), rdR_s]
    refine Z.aload_n (pc := 113) (i := 0) dX9_image_113 rfl rfl ?_
    refine Z.getR (pc := 114) dX9_image_114 zf_X9_44 rfl rfl ?_
    refine Z.iload_n (pc := 117) (i := 1) dX9_image_117 rfl rfl ?_
    refine Z.aload_n (pc := 118) (i := 0) dX9_image_118 rfl rfl ?_
    refine Z.getR (pc := 119) dX9_image_119 zf_X9_22 rfl rfl ?_
    refine Z.iload_n (pc := 122) (i := 1) dX9_image_122 rfl rfl ?_
    refine Z.iald (pc := 123) dX9_image_123 rfl (by omega) (by decide) ?_
    refine Z.top (show _ = h.1 35 i from rfl) ?_
    refine Z.iast (pc := 124) dX9_image_124 rfl (by omega) (by decide) ?_
    rw [z_r3_2 (by decide), rdR_s]
    refine Z.aload_n (pc := 125) (i := 0) dX9_image_125 rfl rfl ?_
    refine Z.getR (pc := 126) dX9_image_126 zf_X9_47 rfl rfl ?_
    refine Z.iload_n (pc := 129) (i := 1) dX9_image_129 rfl rfl ?_
    refine Z.aload_n (pc := 130) (i := 0) dX9_image_130 rfl rfl ?_
    refine Z.getR (pc := 131) dX9_image_131 zf_X9_25 rfl rfl ?_
    refine Z.iload_n (pc := 134) (i := 1) dX9_image_134 rfl rfl ?_
    refine Z.iald (pc := 135) dX9_image_135 rfl (by omega) (by decide) ?_
    refine Z.top (show _ = h.1 36 i from rfl) ?_
    refine Z.iast (pc := 136) dX9_image_136 rfl (by omega) (by decide) ?_
    rw [z_r3_3, rdR_s]
    refine Z.iinc (pc := 137) (i := 1) (v := (nI (i + 1))) dX9_image_137 rfl (by exact ii_1 i) (by decide) rfl ?_
    refine Z.goto (pc := 140) (tgt := 95) dX9_image_140 (by decide) ?_
    exact ih (i + 1) (by omega)
set_option maxRecDepth 100000 in
set_option maxHeartbeats 400000 in
theorem l_X9_restore1 {h : hp} {K : Option Value → hp → Prop} (hk : Z yX9_restore cX9_restore 2 (some .int) 0 K 91 [(0, .ref 30)] [] (z_r2 h 31 (rdR (h.1 39) (h.1 31) 8) 32 (rdR (h.1 40) (h.1 32) 8))) : ∀ (r i : Nat) , i + r = 8 → Z yX9_restore cX9_restore 2 (some .int) 0 (K) 55 [(0, .ref 30), (1, .int (nI i))] [] (z_r2 h 31 (rdR (h.1 39) (h.1 31) i) 32 (rdR (h.1 40) (h.1 32) i)) := by
  intro r
  induction r with
  | zero =>
    intro i hi
    obtain rfl : 8 = i := by omega
    refine Z.iload_n (pc := 55) (i := 1) dX9_restore_55 rfl rfl ?_
    refine Z.bipush (pc := 56) (v := (nI 8)) dX9_restore_56 (by decide) ?_
    refine Z.icmp_ge_t (pc := 58) (tgt := 91) dX9_restore_58 (by decide) (nI_le (Nat.le_refl _) (by decide)) ?_
    refine Z.drop 1 ?_
    exact hk
  | succ r ih =>
    intro i hi
    refine Z.iload_n (pc := 55) (i := 1) dX9_restore_55 rfl rfl ?_
    refine Z.bipush (pc := 56) (v := (nI 8)) dX9_restore_56 (by decide) ?_
    refine Z.icmp_ge_f (pc := 58) (tgt := 91) dX9_restore_58 (by decide) (nI_ge (by omega) (by decide)) ?_
    refine Z.aload_n (pc := 61) (i := 0) dX9_restore_61 rfl rfl ?_
    refine Z.getR (pc := 62) dX9_restore_62 zf_X9_7 rfl rfl ?_
    refine Z.iload_n (pc := 65) (i := 1) dX9_restore_65 rfl rfl ?_
    refine Z.aload_n (pc := 66) (i := 0) dX9_restore_66 rfl rfl ?_
    refine Z.getR (pc := 67) dX9_restore_67 zf_X9_35 rfl rfl ?_
    refine Z.iload_n (pc := 70) (i := 1) dX9_restore_70 rfl rfl ?_
    refine Z.iald (pc := 71) dX9_restore_71 rfl (by omega) (by decide) ?_
    refine Z.top (show _ = h.1 39 i from rfl) ?_
    refine Z.iast (pc := 72) dX9_restore_72 rfl (by omega) (by decide) ?_
    rw [z_r2_1 (by decide), rdR_s]
    refine Z.aload_n (pc := 73) (i := 0) dX9_restore_73 rfl rfl ?_
    refine Z.getR (pc := 74) dX9_restore_74 zf_X9_13 rfl rfl ?_
    refine Z.iload_n (pc := 77) (i := 1) dX9_restore_77 rfl rfl ?_
    refine Z.aload_n (pc := 78) (i := 0) dX9_restore_78 rfl rfl ?_
    refine Z.getR (pc := 79) dX9_restore_79 zf_X9_38 rfl rfl ?_
    refine Z.iload_n (pc := 82) (i := 1) dX9_restore_82 rfl rfl ?_
    refine Z.iald (pc := 83) dX9_restore_83 rfl (by omega) (by decide) ?_
    refine Z.top (show _ = h.1 40 i from rfl) ?_
    refine Z.iast (pc := 84) dX9_restore_84 rfl (by omega) (by decide) ?_
    rw [z_r2_2, rdR_s]
    refine Z.iinc (pc := 85) (i := 1) (v := (nI (i + 1))) dX9_restore_85 rfl (by exact ii_1 i) (by decide) rfl ?_
    refine Z.goto (pc := 88) (tgt := 55) dX9_restore_88 (by decide) ?_
    exact ih (i + 1) (by omega)
set_option maxRecDepth 100000 in
set_option maxHeartbeats 400000 in
theorem l_X9_restore2 {h : hp} {K : Option Value → hp → Prop} (hk : Z yX9_restore cX9_restore 2 (some .int) 0 K 141 [(0, .ref 30)] [] (z_r3 h 34 (rdR (h.1 41) (h.1 34) 6) 35 (rdR (h.1 42) (h.1 35) 6) 36 (rdR (h.1 43) (h.1 36) 6))) : ∀ (r i : Nat) , i + r = 6 → Z yX9_restore cX9_restore 2 (some .int) 0 (K) 93 [(0, .ref 30), (1, .int (nI i))] [] (z_r3 h 34 (rdR (h.1 41) (h.1 34) i) 35 (rdR (h.1 42) (h.1 35) i) 36 (rdR (h.1 43) (h.1 36) i)) := by
  intro r
  induction r with
  | zero =>
    intro i hi
    obtain rfl : 6 = i := by omega
    refine Z.iload_n (pc := 93) (i := 1) dX9_restore_93 rfl rfl ?_
    refine Z.bipush (pc := 94) (v := (nI 6)) dX9_restore_94 (by decide) ?_
    refine Z.icmp_ge_t (pc := 96) (tgt := 141) dX9_restore_96 (by decide) (nI_le (Nat.le_refl _) (by decide)) ?_
    refine Z.drop 1 ?_
    exact hk
  | succ r ih =>
    intro i hi
    refine Z.iload_n (pc := 93) (i := 1) dX9_restore_93 rfl rfl ?_
    refine Z.bipush (pc := 94) (v := (nI 6)) dX9_restore_94 (by decide) ?_
    refine Z.icmp_ge_f (pc := 96) (tgt := 141) dX9_restore_96 (by decide) (nI_ge (by omega) (by decide)) ?_
    refine Z.aload_n (pc := 99) (i := 0) dX9_restore_99 rfl rfl ?_
    refine Z.getR (pc := 100) dX9_restore_100 zf_X9_19 rfl rfl ?_
    refine Z.iload_n (pc := 103) (i := 1) dX9_restore_103 rfl rfl ?_
    refine Z.aload_n (pc := 104) (i := 0) dX9_restore_104 rfl rfl ?_
    refine Z.getR (pc := 105) dX9_restore_105 zf_X9_41 rfl rfl ?_
    refine Z.iload_n (pc := 108) (i := 1) dX9_restore_108 rfl rfl ?_
    refine Z.iald (pc := 109) dX9_restore_109 rfl (by omega) (by decide) ?_
    refine Z.top (show _ = h.1 41 i from rfl) ?_
    refine Z.iast (pc := 110) dX9_restore_110 rfl (by omega) (by decide) ?_
    rw [z_r3_1 (by decide) (by decide), rdR_s]
    refine Z.aload_n (pc := 111) (i := 0) dX9_restore_111 rfl rfl ?_
    refine Z.getR (pc := 112) dX9_restore_112 zf_X9_22 rfl rfl ?_
    refine Z.iload_n (pc := 115) (i := 1) dX9_restore_115 rfl rfl ?_
    refine Z.aload_n (pc := 116) (i := 0) dX9_restore_116 rfl rfl ?_
    refine Z.getR (pc := 117) dX9_restore_117 zf_X9_44 rfl rfl ?_
    refine Z.iload_n (pc := 120) (i := 1) dX9_restore_120 rfl rfl ?_
    refine Z.iald (pc := 121) dX9_restore_121 rfl (by omega) (by decide) ?_
    refine Z.top (show _ = h.1 42 i from rfl) ?_
    refine Z.iast (pc := 122) dX9_restore_122 rfl (by omega) (by decide) ?_
    rw [z_r3_2 (by decide), rdR_s]
    refine Z.aload_n (pc := 123) (i := 0) dX9_restore_123 rfl rfl ?_
    refine Z.getR (pc := 124) dX9_restore_124 zf_X9_25 rfl rfl ?_
    refine Z.iload_n (pc := 127) (i := 1) dX9_restore_127 rfl rfl ?_
    refine Z.aload_n (pc := 128) (i := 0) dX9_restore_128 rfl rfl ?_
    refine Z.getR (pc := 129) dX9_restore_129 zf_X9_47 rfl rfl ?_
    refine Z.iload_n (pc := 132) (i := 1) dX9_restore_132 rfl rfl ?_
    refine Z.iald (pc := 133) dX9_restore_133 rfl (by omega) (by decide) ?_
    refine Z.top (show _ = h.1 43 i from rfl) ?_
    refine Z.iast (pc := 134) dX9_restore_134 rfl (by omega) (by decide) ?_
    rw [z_r3_3, rdR_s]
    refine Z.iinc (pc := 135) (i := 1) (v := (nI (i + 1))) dX9_restore_135 rfl (by exact ii_1 i) (by decide) rfl ?_
    refine Z.goto (pc := 138) (tgt := 93) dX9_restore_138 (by decide) ?_
    exact ih (i + 1) (by omega)
set_option maxRecDepth 100000 in
set_option maxHeartbeats 400000 in
theorem c_X9_image {h : hp} {len n hr fd ho sz ihr ifd iho isz np : Nat} {pg k s f sg so se ik js isg iso ise : zF} {kept : Bool} (hD : MS h ((len, pg), (n, k, s, f, hr, fd, ho), (sz, sg, so, se), kept, (ihr, ik, js, ifd, iho, (isz, isg, iso, ise)), np)) (hS : OkS ((len, pg), (n, k, s, f, hr, fd, ho), (sz, sg, so, se), kept, (ihr, ik, js, ifd, iho, (isz, isg, iso, ise)), np))  : Cn yX9_image cX9_image 2 (some .int) 0 [.ref 30] h (KM h (.int (a_image ((len, pg), (n, k, s, f, hr, fd, ho), (sz, sg, so, se), kept, (ihr, ik, js, ifd, iho, (isz, isg, iso, ise)), np)).1) (a_image ((len, pg), (n, k, s, f, hr, fd, ho), (sz, sg, so, se), kept, (ihr, ik, js, ifd, iho, (isz, isg, iso, ise)), np)).2) := by
  obtain ⟨hP, hG, hE, hK, hI, hX⟩ := id hD
  obtain ⟨⟨sp1, sp2⟩, ⟨sk, shl, sfd, sho, zk, zs, zf⟩, sE, sI⟩ := id hS
  have hM := hG.Mm shl sk
  have hn8 := sk.1
  have hp8 := p8 hn8
  refine Cn.of (by decide) (Nat.le_of_ble_eq_true rfl) ?_
  refine Z.eqL (lv' := [(0, .ref 30)]) rfl ?_
  refine Z.aload_n (pc := 0) (i := 0) dX9_image_0 rfl rfl ?_
  refine Z.getIv (pc := 1) dX9_image_1 zf_X9_83 rfl rfl hG.1 ?_
  refine Z.if_ne (pc := 4) (tgt := 10) dX9_image_4 (by decide) (fun c4 => ?_) (fun c4 => ?_)
  · have n0 : ¬ n = 0 := fun z => c4 (by rw [z]; rfl)
    refine Z.aload_n (pc := 10) (i := 0) dX9_image_10 rfl rfl ?_
    refine Z.iconst (pc := 11) (v := (1)) dX9_image_11 (by decide) ?_
    refine Z.putI (pc := 12) dX9_image_12 zp_X9_229 rfl rfl rfl rfl ?_
    refine Z.aload_n (pc := 15) (i := 0) dX9_image_15 rfl rfl ?_
    refine Z.aload_n (pc := 16) (i := 0) dX9_image_16 rfl rfl ?_
    refine Z.getIv (pc := 17) dX9_image_17 zf_X9_95 rfl rfl (show _ = nI np from hK.1) ?_
    refine Z.putI (pc := 20) dX9_image_20 zp_X9_232 rfl rfl rfl rfl ?_
    refine Z.aload_n (pc := 23) (i := 0) dX9_image_23 rfl rfl ?_
    refine Z.aload_n (pc := 24) (i := 0) dX9_image_24 rfl rfl ?_
    refine Z.getIv (pc := 25) dX9_image_25 zf_X9_86 rfl rfl (show _ = nI fd from hG.2.2.1) ?_
    refine Z.putI (pc := 28) dX9_image_28 zp_X9_235 rfl rfl rfl rfl ?_
    refine Z.aload_n (pc := 31) (i := 0) dX9_image_31 rfl rfl ?_
    refine Z.aload_n (pc := 32) (i := 0) dX9_image_32 rfl rfl ?_
    refine Z.getIv (pc := 33) dX9_image_33 zf_X9_92 rfl rfl (show _ = nI ho from hG.2.2.2.1) ?_
    refine Z.putI (pc := 36) dX9_image_36 zp_X9_238 rfl rfl rfl rfl ?_
    refine Z.aload_n (pc := 39) (i := 0) dX9_image_39 rfl rfl ?_
    refine Z.aload_n (pc := 40) (i := 0) dX9_image_40 rfl rfl ?_
    refine Z.getIv (pc := 41) dX9_image_41 zf_X9_89 rfl rfl (show _ = nI hr from hG.2.1) ?_
    refine Z.putI (pc := 44) dX9_image_44 zp_X9_241 rfl rfl rfl rfl ?_
    refine Z.aload_n (pc := 47) (i := 0) dX9_image_47 rfl rfl ?_
    refine Z.aload_n (pc := 48) (i := 0) dX9_image_48 rfl rfl ?_
    refine Z.getIv (pc := 49) dX9_image_49 zf_X9_98 rfl rfl (show _ = nI sz from hE.1) ?_
    refine Z.putI (pc := 52) dX9_image_52 zp_X9_244 rfl rfl rfl rfl ?_
    refine Z.iconst (pc := 55) (v := (nI 0)) dX9_image_55 (by decide) ?_
    refine Z.istore_n (pc := 56) (i := 1) dX9_image_56 rfl (by decide) rfl ?_
    have hk : Z yX9_image cX9_image 2 (some .int) 0 (KM h (.int (a_image ((len, pg), (n, k, s, f, hr, fd, ho), (sz, sg, so, se), kept, (ihr, ik, js, ifd, iho, (isz, isg, iso, ise)), np)).1) (a_image ((len, pg), (n, k, s, f, hr, fd, ho), (sz, sg, so, se), kept, (ihr, ik, js, ifd, iho, (isz, isg, iso, ise)), np)).2) 143 [(0, .ref 30)] [] (z_r3 (z_r2 (z_up (z_up (z_up (z_up (z_up (z_up h 30 20 1) 30 21 (nI np)) 30 22 (nI fd)) 30 23 (nI ho)) 30 24 (nI hr)) 30 25 (nI sz)) 39 (rdR ((z_up (z_up (z_up (z_up (z_up (z_up h 30 20 1) 30 21 (nI np)) 30 22 (nI fd)) 30 23 (nI ho)) 30 24 (nI hr)) 30 25 (nI sz)).1 31) ((z_up (z_up (z_up (z_up (z_up (z_up h 30 20 1) 30 21 (nI np)) 30 22 (nI fd)) 30 23 (nI ho)) 30 24 (nI hr)) 30 25 (nI sz)).1 39) 8) 40 (rdR ((z_up (z_up (z_up (z_up (z_up (z_up h 30 20 1) 30 21 (nI np)) 30 22 (nI fd)) 30 23 (nI ho)) 30 24 (nI hr)) 30 25 (nI sz)).1 32) ((z_up (z_up (z_up (z_up (z_up (z_up h 30 20 1) 30 21 (nI np)) 30 22 (nI fd)) 30 23 (nI ho)) 30 24 (nI hr)) 30 25 (nI sz)).1 40) 8)) 41 (rdR ((z_r2 (z_up (z_up (z_up (z_up (z_up (z_up h 30 20 1) 30 21 (nI np)) 30 22 (nI fd)) 30 23 (nI ho)) 30 24 (nI hr)) 30 25 (nI sz)) 39 (rdR ((z_up (z_up (z_up (z_up (z_up (z_up h 30 20 1) 30 21 (nI np)) 30 22 (nI fd)) 30 23 (nI ho)) 30 24 (nI hr)) 30 25 (nI sz)).1 31) ((z_up (z_up (z_up (z_up (z_up (z_up h 30 20 1) 30 21 (nI np)) 30 22 (nI fd)) 30 23 (nI ho)) 30 24 (nI hr)) 30 25 (nI sz)).1 39) 8) 40 (rdR ((z_up (z_up (z_up (z_up (z_up (z_up h 30 20 1) 30 21 (nI np)) 30 22 (nI fd)) 30 23 (nI ho)) 30 24 (nI hr)) 30 25 (nI sz)).1 32) ((z_up (z_up (z_up (z_up (z_up (z_up h 30 20 1) 30 21 (nI np)) 30 22 (nI fd)) 30 23 (nI ho)) 30 24 (nI hr)) 30 25 (nI sz)).1 40) 8)).1 34) ((z_r2 (z_up (z_up (z_up (z_up (z_up (z_up h 30 20 1) 30 21 (nI np)) 30 22 (nI fd)) 30 23 (nI ho)) 30 24 (nI hr)) 30 25 (nI sz)) 39 (rdR ((z_up (z_up (z_up (z_up (z_up (z_up h 30 20 1) 30 21 (nI np)) 30 22 (nI fd)) 30 23 (nI ho)) 30 24 (nI hr)) 30 25 (nI sz)).1 31) ((z_up (z_up (z_up (z_up (z_up (z_up h 30 20 1) 30 21 (nI np)) 30 22 (nI fd)) 30 23 (nI ho)) 30 24 (nI hr)) 30 25 (nI sz)).1 39) 8) 40 (rdR ((z_up (z_up (z_up (z_up (z_up (z_up h 30 20 1) 30 21 (nI np)) 30 22 (nI fd)) 30 23 (nI ho)) 30 24 (nI hr)) 30 25 (nI sz)).1 32) ((z_up (z_up (z_up (z_up (z_up (z_up h 30 20 1) 30 21 (nI np)) 30 22 (nI fd)) 30 23 (nI ho)) 30 24 (nI hr)) 30 25 (nI sz)).1 40) 8)).1 41) 6) 42 (rdR ((z_r2 (z_up (z_up (z_up (z_up (z_up (z_up h 30 20 1) 30 21 (nI np)) 30 22 (nI fd)) 30 23 (nI ho)) 30 24 (nI hr)) 30 25 (nI sz)) 39 (rdR ((z_up (z_up (z_up (z_up (z_up (z_up h 30 20 1) 30 21 (nI np)) 30 22 (nI fd)) 30 23 (nI ho)) 30 24 (nI hr)) 30 25 (nI sz)).1 31) ((z_up (z_up (z_up (z_up (z_up (z_up h 30 20 1) 30 21 (nI np)) 30 22 (nI fd)) 30 23 (nI ho)) 30 24 (nI hr)) 30 25 (nI sz)).1 39) 8) 40 (rdR ((z_up (z_up (z_up (z_up (z_up (z_up h 30 20 1) 30 21 (nI np)) 30 22 (nI fd)) 30 23 (nI ho)) 30 24 (nI hr)) 30 25 (nI sz)).1 32) ((z_up (z_up (z_up (z_up (z_up (z_up h 30 20 1) 30 21 (nI np)) 30 22 (nI fd)) 30 23 (nI ho)) 30 24 (nI hr)) 30 25 (nI sz)).1 40) 8)).1 35) ((z_r2 (z_up (z_up (z_up (z_up (z_up (z_up h 30 20 1) 30 21 (nI np)) 30 22 (nI fd)) 30 23 (nI ho)) 30 24 (nI hr)) 30 25 (nI sz)) 39 (rdR ((z_up (z_up (z_up (z_up (z_up (z_up h 30 20 1) 30 21 (nI np)) 30 22 (nI fd)) 30 23 (nI ho)) 30 24 (nI hr)) 30 25 (nI sz)).1 31) ((z_up (z_up (z_up (z_up (z_up (z_up h 30 20 1) 30 21 (nI np)) 30 22 (nI fd)) 30 23 (nI ho)) 30 24 (nI hr)) 30 25 (nI sz)).1 39) 8) 40 (rdR ((z_up (z_up (z_up (z_up (z_up (z_up h 30 20 1) 30 21 (nI np)) 30 22 (nI fd)) 30 23 (nI ho)) 30 24 (nI hr)) 30 25 (nI sz)).1 32) ((z_up (z_up (z_up (z_up (z_up (z_up h 30 20 1) 30 21 (nI np)) 30 22 (nI fd)) 30 23 (nI ho)) 30 24 (nI hr)) 30 25 (nI sz)).1 40) 8)).1 42) 6) 43 (rdR ((z_r2 (z_up (z_up (z_up (z_up (z_up (z_up h 30 20 1) 30 21 (nI np)) 30 22 (nI fd)) 30 23 (nI ho)) 30 24 (nI hr)) 30 25 (nI sz)) 39 (rdR ((z_up (z_up (z_up (z_up (z_up (z_up h 30 20 1) 30 21 (nI np)) 30 22 (nI fd)) 30 23 (nI ho)) 30 24 (nI hr)) 30 25 (nI sz)).1 31) ((z_up (z_up (z_up (z_up (z_up (z_up h 30 20 1) 30 21 (nI np)) 30 22 (nI fd)) 30 23 (nI ho)) 30 24 (nI hr)) 30 25 (nI sz)).1 39) 8) 40 (rdR ((z_up (z_up (z_up (z_up (z_up (z_up h 30 20 1) 30 21 (nI np)) 30 22 (nI fd)) 30 23 (nI ho)) 30 24 (nI hr)) 30 25 (nI sz)).1 32) ((z_up (z_up (z_up (z_up (z_up (z_up h 30 20 1) 30 21 (nI np)) 30 22 (nI fd)) 30 23 (nI ho)) 30 24 (nI hr)) 30 25 (nI sz)).1 40) 8)).1 36) ((z_r2 (z_up (z_up (z_up (z_up (z_up (z_up h 30 20 1) 30 21 (nI np)) 30 22 (nI fd)) 30 23 (nI ho)) 30 24 (nI hr)) 30 25 (nI sz)) 39 (rdR ((z_up (z_up (z_up (z_up (z_up (z_up h 30 20 1) 30 21 (nI np)) 30 22 (nI fd)) 30 23 (nI ho)) 30 24 (nI hr)) 30 25 (nI sz)).1 31) ((z_up (z_up (z_up (z_up (z_up (z_up h 30 20 1) 30 21 (nI np)) 30 22 (nI fd)) 30 23 (nI ho)) 30 24 (nI hr)) 30 25 (nI sz)).1 39) 8) 40 (rdR ((z_up (z_up (z_up (z_up (z_up (z_up h 30 20 1) 30 21 (nI np)) 30 22 (nI fd)) 30 23 (nI ho)) 30 24 (nI hr)) 30 25 (nI sz)).1 32) ((z_up (z_up (z_up (z_up (z_up (z_up h 30 20 1) 30 21 (nI np)) 30 22 (nI fd)) 30 23 (nI ho)) 30 24 (nI hr)) 30 25 (nI sz)).1 40) 8)).1 43) 6)) := by
        refine Z.aload_n (pc := 143) (i := 0) dX9_image_143 rfl rfl ?_
        refine Z.getIv (pc := 144) dX9_image_144 zf_X9_92 rfl rfl (show _ = nI ho from hG.2.2.2.1) ?_
        refine Z.iret (pc := 147) (ty := .int) dX9_image_147 rfl rfl ?_
        have g1 : h.1 31 = k := hG.2.2.2.2.1
        have g2 : h.1 32 = s := hG.2.2.2.2.2.1
        have t1 : rdR (h.1 31) (h.1 39) 8 = k := by rw [g1]; exact rd8 zk hX.2.1
        have t2 : rdR (h.1 32) (h.1 40) 8 = s := by rw [g2]; exact rd8 zs hX.2.2.1
        have t3 : rdR (h.1 34) (h.1 41) 6 = sg := by rw [hE.2.1]; exact rd6 sE.2.1 hX.2.2.2.1
        have t4 : rdR (h.1 35) (h.1 42) 6 = so := by rw [hE.2.2.1]; exact rd6 sE.2.2.1 hX.2.2.2.2.1
        have t5 : rdR (h.1 36) (h.1 43) 6 = se := by rw [hE.2.2.2]; exact rd6 sE.2.2.2.1 hX.2.2.2.2.2
        exact km (S' := ((len, pg), (n, k, s, f, hr, fd, ho), (sz, sg, so, se), true, (hr, k, s, fd, ho, (sz, sg, so, se)), np)) (by simp [a_image, n0]) ⟨hP.mv rfl rfl, hG.mv rfl rfl rfl rfl rfl rfl rfl, hE.mv rfl rfl rfl rfl, ⟨hK.1, true, np, rfl, rfl, Nat.le_refl _, by rw [decide_eq_true rfl]; rfl⟩, fun _ => ⟨rfl, rfl, rfl, rfl, t1, t2, t3, t4, t5⟩, ⟨hX.1, (show dZ8 (rdR (h.1 31) (h.1 39) 8) from t1 ▸ zk), (show dZ8 (rdR (h.1 32) (h.1 40) 8) from t2 ▸ zs), (show dZ6 (rdR (h.1 34) (h.1 41) 6) from t3 ▸ sE.2.1), (show dZ6 (rdR (h.1 35) (h.1 42) 6) from t4 ▸ sE.2.2.1), (show dZ6 (rdR (h.1 36) (h.1 43) 6) from t5 ▸ sE.2.2.2.1)⟩⟩ (by repeat (first | refine f9_up ?_ (by decide) | refine f9_r3 ?_ (by decide) (by decide) (by decide) | refine f9_r2 ?_ (by decide) (by decide) | exact f9_rf))
    have hk2 : Z yX9_image cX9_image 2 (some .int) 0 (KM h (.int (a_image ((len, pg), (n, k, s, f, hr, fd, ho), (sz, sg, so, se), kept, (ihr, ik, js, ifd, iho, (isz, isg, iso, ise)), np)).1) (a_image ((len, pg), (n, k, s, f, hr, fd, ho), (sz, sg, so, se), kept, (ihr, ik, js, ifd, iho, (isz, isg, iso, ise)), np)).2) 93 [(0, .ref 30)] [] (z_r2 (z_up (z_up (z_up (z_up (z_up (z_up h 30 20 1) 30 21 (nI np)) 30 22 (nI fd)) 30 23 (nI ho)) 30 24 (nI hr)) 30 25 (nI sz)) 39 (rdR ((z_up (z_up (z_up (z_up (z_up (z_up h 30 20 1) 30 21 (nI np)) 30 22 (nI fd)) 30 23 (nI ho)) 30 24 (nI hr)) 30 25 (nI sz)).1 31) ((z_up (z_up (z_up (z_up (z_up (z_up h 30 20 1) 30 21 (nI np)) 30 22 (nI fd)) 30 23 (nI ho)) 30 24 (nI hr)) 30 25 (nI sz)).1 39) 8) 40 (rdR ((z_up (z_up (z_up (z_up (z_up (z_up h 30 20 1) 30 21 (nI np)) 30 22 (nI fd)) 30 23 (nI ho)) 30 24 (nI hr)) 30 25 (nI sz)).1 32) ((z_up (z_up (z_up (z_up (z_up (z_up h 30 20 1) 30 21 (nI np)) 30 22 (nI fd)) 30 23 (nI ho)) 30 24 (nI hr)) 30 25 (nI sz)).1 40) 8)) := by
      refine Z.iconst (pc := 93) (v := (nI 0)) dX9_image_93 (by decide) ?_
      refine Z.istore_n (pc := 94) (i := 1) dX9_image_94 rfl (by decide) rfl ?_
      have e := l_X9_image2 (h := (z_r2 (z_up (z_up (z_up (z_up (z_up (z_up h 30 20 1) 30 21 (nI np)) 30 22 (nI fd)) 30 23 (nI ho)) 30 24 (nI hr)) 30 25 (nI sz)) 39 (rdR ((z_up (z_up (z_up (z_up (z_up (z_up h 30 20 1) 30 21 (nI np)) 30 22 (nI fd)) 30 23 (nI ho)) 30 24 (nI hr)) 30 25 (nI sz)).1 31) ((z_up (z_up (z_up (z_up (z_up (z_up h 30 20 1) 30 21 (nI np)) 30 22 (nI fd)) 30 23 (nI ho)) 30 24 (nI hr)) 30 25 (nI sz)).1 39) 8) 40 (rdR ((z_up (z_up (z_up (z_up (z_up (z_up h 30 20 1) 30 21 (nI np)) 30 22 (nI fd)) 30 23 (nI ho)) 30 24 (nI hr)) 30 25 (nI sz)).1 32) ((z_up (z_up (z_up (z_up (z_up (z_up h 30 20 1) 30 21 (nI np)) 30 22 (nI fd)) 30 23 (nI ho)) 30 24 (nI hr)) 30 25 (nI sz)).1 40) 8))) hk 6 0 rfl
      rw [rdR_0, rdR_0, rdR_0, z_r3_id rfl rfl rfl] at e
      exact e
    have e := l_X9_image1 (h := (z_up (z_up (z_up (z_up (z_up (z_up h 30 20 1) 30 21 (nI np)) 30 22 (nI fd)) 30 23 (nI ho)) 30 24 (nI hr)) 30 25 (nI sz))) hk2 8 0 rfl
    rw [rdR_0, rdR_0, z_r2_id rfl rfl] at e
    exact e
  · have n0 : n = 0 := (nI_0' (by omega)).mp c4
    refine Z.bipush (pc := 7) (v := (-103)) dX9_image_7 (by decide) ?_
    refine Z.iret (pc := 9) (ty := .int) dX9_image_9 rfl rfl ?_
    exact km (S' := ((len, pg), (n, k, s, f, hr, fd, ho), (sz, sg, so, se), kept, (ihr, ik, js, ifd, iho, (isz, isg, iso, ise)), np)) (by simp [a_image, n0]) hD f9_rf
set_option maxRecDepth 100000 in
set_option maxHeartbeats 400000 in
theorem c_X9_restore {h : hp} {len n hr fd ho sz ihr ifd iho isz np : Nat} {pg k s f sg so se ik js isg iso ise : zF} {kept : Bool} (hD : MS h ((len, pg), (n, k, s, f, hr, fd, ho), (sz, sg, so, se), kept, (ihr, ik, js, ifd, iho, (isz, isg, iso, ise)), np)) (hS : OkS ((len, pg), (n, k, s, f, hr, fd, ho), (sz, sg, so, se), kept, (ihr, ik, js, ifd, iho, (isz, isg, iso, ise)), np)) (hnp : np < 2 ^ 31)  : Cn yX9_restore cX9_restore 2 (some .int) 0 [.ref 30] h (KM h (.int (a_restore ((len, pg), (n, k, s, f, hr, fd, ho), (sz, sg, so, se), kept, (ihr, ik, js, ifd, iho, (isz, isg, iso, ise)), np)).1) (a_restore ((len, pg), (n, k, s, f, hr, fd, ho), (sz, sg, so, se), kept, (ihr, ik, js, ifd, iho, (isz, isg, iso, ise)), np)).2) := by
  obtain ⟨hP, hG, hE, hK, hI, hX⟩ := id hD
  obtain ⟨⟨sp1, sp2⟩, ⟨sk, shl, sfd, sho, zk, zs, zf⟩, sE, sI⟩ := id hS
  have hM := hG.Mm shl sk
  have hn8 := sk.1
  have hp8 := p8 hn8
  obtain ⟨hK0, mk, mkp, hk1, hk2, hk3, hk4⟩ := id hK
  refine Cn.of (by decide) (Nat.le_of_ble_eq_true rfl) ?_
  refine Z.eqL (lv' := [(0, .ref 30)]) rfl ?_
  refine Z.aload_n (pc := 0) (i := 0) dX9_restore_0 rfl rfl ?_
  refine Z.getIv (pc := 1) dX9_restore_1 zf_X9_229 rfl rfl hk1 ?_
  refine Z.if_eq_b (pc := 4) (tgt := 18) dX9_restore_4 (by decide) (fun c4 => ?_) (fun c4 => ?_)
  · have c : kept = false := by rw [hk4, c4]; rfl
    refine Z.bipush (pc := 18) (v := (-103)) dX9_restore_18 (by decide) ?_
    refine Z.iret (pc := 20) (ty := .int) dX9_restore_20 rfl rfl ?_
    exact km (S' := ((len, pg), (n, k, s, f, hr, fd, ho), (sz, sg, so, se), kept, (ihr, ik, js, ifd, iho, (isz, isg, iso, ise)), np)) (by simp [a_restore, c]) hD f9_rf
  · refine Z.aload_n (pc := 7) (i := 0) dX9_restore_7 rfl rfl ?_
    refine Z.getIv (pc := 8) dX9_restore_8 zf_X9_232 rfl rfl hk2 ?_
    refine Z.aload_n (pc := 11) (i := 0) dX9_restore_11 rfl rfl ?_
    refine Z.getIv (pc := 12) dX9_restore_12 zf_X9_95 rfl rfl hK.1 ?_
    refine Z.icmp_eq (pc := 15) (tgt := 21) dX9_restore_15 (by decide) (fun c15 => ?_) (fun c15 => ?_)
    · have em : mkp = np := (nI_eq (by omega) hnp).mp c15
      have c : kept = true := by rw [hk4, c4, decide_eq_true em]; rfl
      obtain ⟨tk, til, tfd, tho, wk, wj, tE⟩ := sI c
      obtain ⟨d1, d2, d3, d4, d5, d6, d7, d8, d9⟩ := hI c
      refine Z.aload_n (pc := 21) (i := 0) dX9_restore_21 rfl rfl ?_
      refine Z.aload_n (pc := 22) (i := 0) dX9_restore_22 rfl rfl ?_
      refine Z.getIv (pc := 23) dX9_restore_23 zf_X9_235 rfl rfl (show _ = nI ifd from d1) ?_
      refine Z.putI (pc := 26) dX9_restore_26 zp_X9_86 rfl rfl rfl rfl ?_
      refine Z.aload_n (pc := 29) (i := 0) dX9_restore_29 rfl rfl ?_
      refine Z.aload_n (pc := 30) (i := 0) dX9_restore_30 rfl rfl ?_
      refine Z.getIv (pc := 31) dX9_restore_31 zf_X9_238 rfl rfl (show _ = nI iho from d2) ?_
      refine Z.putI (pc := 34) dX9_restore_34 zp_X9_92 rfl rfl rfl rfl ?_
      refine Z.aload_n (pc := 37) (i := 0) dX9_restore_37 rfl rfl ?_
      refine Z.aload_n (pc := 38) (i := 0) dX9_restore_38 rfl rfl ?_
      refine Z.getIv (pc := 39) dX9_restore_39 zf_X9_241 rfl rfl (show _ = nI ihr from d3) ?_
      refine Z.putI (pc := 42) dX9_restore_42 zp_X9_89 rfl rfl rfl rfl ?_
      refine Z.aload_n (pc := 45) (i := 0) dX9_restore_45 rfl rfl ?_
      refine Z.aload_n (pc := 46) (i := 0) dX9_restore_46 rfl rfl ?_
      refine Z.getIv (pc := 47) dX9_restore_47 zf_X9_244 rfl rfl (show _ = nI isz from d4) ?_
      refine Z.putI (pc := 50) dX9_restore_50 zp_X9_98 rfl rfl rfl rfl ?_
      refine Z.iconst (pc := 53) (v := (nI 0)) dX9_restore_53 (by decide) ?_
      refine Z.istore_n (pc := 54) (i := 1) dX9_restore_54 rfl (by decide) rfl ?_
      have hk : Z yX9_restore cX9_restore 2 (some .int) 0 (KM h (.int (a_restore ((len, pg), (n, k, s, f, hr, fd, ho), (sz, sg, so, se), kept, (ihr, ik, js, ifd, iho, (isz, isg, iso, ise)), np)).1) (a_restore ((len, pg), (n, k, s, f, hr, fd, ho), (sz, sg, so, se), kept, (ihr, ik, js, ifd, iho, (isz, isg, iso, ise)), np)).2) 141 [(0, .ref 30)] [] (z_r3 (z_r2 (z_up (z_up (z_up (z_up h 30 2 (nI ifd)) 30 3 (nI iho)) 30 4 (nI ihr)) 30 8 (nI isz)) 31 (rdR ((z_up (z_up (z_up (z_up h 30 2 (nI ifd)) 30 3 (nI iho)) 30 4 (nI ihr)) 30 8 (nI isz)).1 39) ((z_up (z_up (z_up (z_up h 30 2 (nI ifd)) 30 3 (nI iho)) 30 4 (nI ihr)) 30 8 (nI isz)).1 31) 8) 32 (rdR ((z_up (z_up (z_up (z_up h 30 2 (nI ifd)) 30 3 (nI iho)) 30 4 (nI ihr)) 30 8 (nI isz)).1 40) ((z_up (z_up (z_up (z_up h 30 2 (nI ifd)) 30 3 (nI iho)) 30 4 (nI ihr)) 30 8 (nI isz)).1 32) 8)) 34 (rdR ((z_r2 (z_up (z_up (z_up (z_up h 30 2 (nI ifd)) 30 3 (nI iho)) 30 4 (nI ihr)) 30 8 (nI isz)) 31 (rdR ((z_up (z_up (z_up (z_up h 30 2 (nI ifd)) 30 3 (nI iho)) 30 4 (nI ihr)) 30 8 (nI isz)).1 39) ((z_up (z_up (z_up (z_up h 30 2 (nI ifd)) 30 3 (nI iho)) 30 4 (nI ihr)) 30 8 (nI isz)).1 31) 8) 32 (rdR ((z_up (z_up (z_up (z_up h 30 2 (nI ifd)) 30 3 (nI iho)) 30 4 (nI ihr)) 30 8 (nI isz)).1 40) ((z_up (z_up (z_up (z_up h 30 2 (nI ifd)) 30 3 (nI iho)) 30 4 (nI ihr)) 30 8 (nI isz)).1 32) 8)).1 41) ((z_r2 (z_up (z_up (z_up (z_up h 30 2 (nI ifd)) 30 3 (nI iho)) 30 4 (nI ihr)) 30 8 (nI isz)) 31 (rdR ((z_up (z_up (z_up (z_up h 30 2 (nI ifd)) 30 3 (nI iho)) 30 4 (nI ihr)) 30 8 (nI isz)).1 39) ((z_up (z_up (z_up (z_up h 30 2 (nI ifd)) 30 3 (nI iho)) 30 4 (nI ihr)) 30 8 (nI isz)).1 31) 8) 32 (rdR ((z_up (z_up (z_up (z_up h 30 2 (nI ifd)) 30 3 (nI iho)) 30 4 (nI ihr)) 30 8 (nI isz)).1 40) ((z_up (z_up (z_up (z_up h 30 2 (nI ifd)) 30 3 (nI iho)) 30 4 (nI ihr)) 30 8 (nI isz)).1 32) 8)).1 34) 6) 35 (rdR ((z_r2 (z_up (z_up (z_up (z_up h 30 2 (nI ifd)) 30 3 (nI iho)) 30 4 (nI ihr)) 30 8 (nI isz)) 31 (rdR ((z_up (z_up (z_up (z_up h 30 2 (nI ifd)) 30 3 (nI iho)) 30 4 (nI ihr)) 30 8 (nI isz)).1 39) ((z_up (z_up (z_up (z_up h 30 2 (nI ifd)) 30 3 (nI iho)) 30 4 (nI ihr)) 30 8 (nI isz)).1 31) 8) 32 (rdR ((z_up (z_up (z_up (z_up h 30 2 (nI ifd)) 30 3 (nI iho)) 30 4 (nI ihr)) 30 8 (nI isz)).1 40) ((z_up (z_up (z_up (z_up h 30 2 (nI ifd)) 30 3 (nI iho)) 30 4 (nI ihr)) 30 8 (nI isz)).1 32) 8)).1 42) ((z_r2 (z_up (z_up (z_up (z_up h 30 2 (nI ifd)) 30 3 (nI iho)) 30 4 (nI ihr)) 30 8 (nI isz)) 31 (rdR ((z_up (z_up (z_up (z_up h 30 2 (nI ifd)) 30 3 (nI iho)) 30 4 (nI ihr)) 30 8 (nI isz)).1 39) ((z_up (z_up (z_up (z_up h 30 2 (nI ifd)) 30 3 (nI iho)) 30 4 (nI ihr)) 30 8 (nI isz)).1 31) 8) 32 (rdR ((z_up (z_up (z_up (z_up h 30 2 (nI ifd)) 30 3 (nI iho)) 30 4 (nI ihr)) 30 8 (nI isz)).1 40) ((z_up (z_up (z_up (z_up h 30 2 (nI ifd)) 30 3 (nI iho)) 30 4 (nI ihr)) 30 8 (nI isz)).1 32) 8)).1 35) 6) 36 (rdR ((z_r2 (z_up (z_up (z_up (z_up h 30 2 (nI ifd)) 30 3 (nI iho)) 30 4 (nI ihr)) 30 8 (nI isz)) 31 (rdR ((z_up (z_up (z_up (z_up h 30 2 (nI ifd)) 30 3 (nI iho)) 30 4 (nI ihr)) 30 8 (nI isz)).1 39) ((z_up (z_up (z_up (z_up h 30 2 (nI ifd)) 30 3 (nI iho)) 30 4 (nI ihr)) 30 8 (nI isz)).1 31) 8) 32 (rdR ((z_up (z_up (z_up (z_up h 30 2 (nI ifd)) 30 3 (nI iho)) 30 4 (nI ihr)) 30 8 (nI isz)).1 40) ((z_up (z_up (z_up (z_up h 30 2 (nI ifd)) 30 3 (nI iho)) 30 4 (nI ihr)) 30 8 (nI isz)).1 32) 8)).1 43) ((z_r2 (z_up (z_up (z_up (z_up h 30 2 (nI ifd)) 30 3 (nI iho)) 30 4 (nI ihr)) 30 8 (nI isz)) 31 (rdR ((z_up (z_up (z_up (z_up h 30 2 (nI ifd)) 30 3 (nI iho)) 30 4 (nI ihr)) 30 8 (nI isz)).1 39) ((z_up (z_up (z_up (z_up h 30 2 (nI ifd)) 30 3 (nI iho)) 30 4 (nI ihr)) 30 8 (nI isz)).1 31) 8) 32 (rdR ((z_up (z_up (z_up (z_up h 30 2 (nI ifd)) 30 3 (nI iho)) 30 4 (nI ihr)) 30 8 (nI isz)).1 40) ((z_up (z_up (z_up (z_up h 30 2 (nI ifd)) 30 3 (nI iho)) 30 4 (nI ihr)) 30 8 (nI isz)).1 32) 8)).1 36) 6)) := by
          refine Z.aload_n (pc := 141) (i := 0) dX9_restore_141 rfl rfl ?_
          refine Z.getIv (pc := 142) dX9_restore_142 zf_X9_92 rfl rfl (show _ = nI iho from rfl) ?_
          refine Z.iret (pc := 145) (ty := .int) dX9_restore_145 rfl rfl ?_
          have t1 : rdR (h.1 39) (h.1 31) 8 = ik := by rw [d5, hG.2.2.2.2.1]; exact rd8 wk zk
          have t2 : rdR (h.1 40) (h.1 32) 8 = js := by rw [d6, hG.2.2.2.2.2.1]; exact rd8 wj zs
          have t3 : rdR (h.1 41) (h.1 34) 6 = isg := by rw [d7, hE.2.1]; exact rd6 tE.2.1 sE.2.1
          have t4 : rdR (h.1 42) (h.1 35) 6 = iso := by rw [d8, hE.2.2.1]; exact rd6 tE.2.2.1 sE.2.2.1
          have t5 : rdR (h.1 43) (h.1 36) 6 = ise := by rw [d9, hE.2.2.2]; exact rd6 tE.2.2.2.1 sE.2.2.2.1
          exact km (S' := ((len, pg), (n, ik, js, f, ihr, ifd, iho), (isz, isg, iso, ise), kept, (ihr, ik, js, ifd, iho, (isz, isg, iso, ise)), np)) (by simp [a_restore, c]) ⟨hP.mv rfl rfl, ⟨hG.1, rfl, rfl, rfl, t1, t2, hG.2.2.2.2.2.2⟩, ⟨rfl, t3, t4, t5⟩, hK.mv rfl rfl rfl, hI.mv rfl rfl rfl rfl rfl rfl rfl rfl rfl, hX.mv hX.1 rfl rfl rfl rfl rfl⟩ (by repeat (first | refine f9_up ?_ (by decide) | refine f9_r3 ?_ (by decide) (by decide) (by decide) | refine f9_r2 ?_ (by decide) (by decide) | exact f9_rf))
      have hk2 : Z yX9_restore cX9_restore 2 (some .int) 0 (KM h (.int (a_restore ((len, pg), (n, k, s, f, hr, fd, ho), (sz, sg, so, se), kept, (ihr, ik, js, ifd, iho, (isz, isg, iso, ise)), np)).1) (a_restore ((len, pg), (n, k, s, f, hr, fd, ho), (sz, sg, so, se), kept, (ihr, ik, js, ifd, iho, (isz, isg, iso, ise)), np)).2) 91 [(0, .ref 30)] [] (z_r2 (z_up (z_up (z_up (z_up h 30 2 (nI ifd)) 30 3 (nI iho)) 30 4 (nI ihr)) 30 8 (nI isz)) 31 (rdR ((z_up (z_up (z_up (z_up h 30 2 (nI ifd)) 30 3 (nI iho)) 30 4 (nI ihr)) 30 8 (nI isz)).1 39) ((z_up (z_up (z_up (z_up h 30 2 (nI ifd)) 30 3 (nI iho)) 30 4 (nI ihr)) 30 8 (nI isz)).1 31) 8) 32 (rdR ((z_up (z_up (z_up (z_up h 30 2 (nI ifd)) 30 3 (nI iho)) 30 4 (nI ihr)) 30 8 (nI isz)).1 40) ((z_up (z_up (z_up (z_up h 30 2 (nI ifd)) 30 3 (nI iho)) 30 4 (nI ihr)) 30 8 (nI isz)).1 32) 8)) := by
        refine Z.iconst (pc := 91) (v := (nI 0)) dX9_restore_91 (by decide) ?_
        refine Z.istore_n (pc := 92) (i := 1) dX9_restore_92 rfl (by decide) rfl ?_
        have e := l_X9_restore2 (h := (z_r2 (z_up (z_up (z_up (z_up h 30 2 (nI ifd)) 30 3 (nI iho)) 30 4 (nI ihr)) 30 8 (nI isz)) 31 (rdR ((z_up (z_up (z_up (z_up h 30 2 (nI ifd)) 30 3 (nI iho)) 30 4 (nI ihr)) 30 8 (nI isz)).1 39) ((z_up (z_up (z_up (z_up h 30 2 (nI ifd)) 30 3 (nI iho)) 30 4 (nI ihr)) 30 8 (nI isz)).1 31) 8) 32 (rdR ((z_up (z_up (z_up (z_up h 30 2 (nI ifd)) 30 3 (nI iho)) 30 4 (nI ihr)) 30 8 (nI isz)).1 40) ((z_up (z_up (z_up (z_up h 30 2 (nI ifd)) 30 3 (nI iho)) 30 4 (nI ihr)) 30 8 (nI isz)).1 32) 8))) hk 6 0 rfl
        rw [rdR_0, rdR_0, rdR_0, z_r3_id rfl rfl rfl] at e
        exact e
      have e := l_X9_restore1 (h := (z_up (z_up (z_up (z_up h 30 2 (nI ifd)) 30 3 (nI iho)) 30 4 (nI ihr)) 30 8 (nI isz))) hk2 8 0 rfl
      rw [rdR_0, rdR_0, z_r2_id rfl rfl] at e
      exact e
    · have c : kept = false := by rw [hk4, decide_eq_false (fun z => c15 (congrArg nI z)), Bool.and_false]
      refine Z.bipush (pc := 18) (v := (-103)) dX9_restore_18 (by decide) ?_
      refine Z.iret (pc := 20) (ty := .int) dX9_restore_20 rfl rfl ?_
      exact km (S' := ((len, pg), (n, k, s, f, hr, fd, ho), (sz, sg, so, se), kept, (ihr, ik, js, ifd, iho, (isz, isg, iso, ise)), np)) (by simp [a_restore, c]) hD f9_rf
set_option maxRecDepth 100000 in
set_option maxHeartbeats 400000 in
theorem c_X9_howMany_0 {h : hp} {n hr : Nat} {k s f : zF} (hM : Mm h n hr k s f) {len fd ho sz np : Nat} {pg sg so se : zF} (hP : MP h len pg) (hG : MG h n k s f hr fd ho) (hE : Me h sz sg so se) (hK0 : h.1 30 0 = nI np)  : Cn yX9_howMany cX9_howMany 2 (some .int) 5 [.ref 30, .int (nI 0)] h (z_eq (some (.int (cnI len n k s f hr fd ho sz np 0))) h) := by
  have hn8 := hM.2.2.2.1.1
  have hp8 := p8 hn8
  have hlt := hM.2.2.1
  refine Cn.of (by decide) (Nat.le_of_ble_eq_true rfl) ?_
  refine Z.eqL (lv' := [(0, .ref 30), (1, .int (nI 0))]) rfl ?_
  refine Z.iload_n (pc := 0) (i := 1) dX9_howMany_0 rfl rfl ?_
  refine Z.tableIn (pc := 1) (off := 55) (tgt := 56) dX9_howMany_1 (by decide) (by decide) (by decide) (by decide) ?_
  refine Z.aload_n (pc := 56) (i := 0) dX9_howMany_56 rfl rfl ?_
  refine Z.getIv (pc := 57) dX9_howMany_57 zf_X9_83 rfl rfl hG.1 ?_
  refine Z.iret (pc := 60) (ty := .int) dX9_howMany_60 rfl rfl ?_
  exact ⟨rfl, rfl⟩
set_option maxRecDepth 100000 in
set_option maxHeartbeats 400000 in
theorem c_X9_howMany_1 {h : hp} {n hr : Nat} {k s f : zF} (hM : Mm h n hr k s f) {len fd ho sz np : Nat} {pg sg so se : zF} (hP : MP h len pg) (hG : MG h n k s f hr fd ho) (hE : Me h sz sg so se) (hK0 : h.1 30 0 = nI np)  : Cn yX9_howMany cX9_howMany 2 (some .int) 5 [.ref 30, .int (nI 1)] h (z_eq (some (.int (cnI len n k s f hr fd ho sz np 1))) h) := by
  have hn8 := hM.2.2.2.1.1
  have hp8 := p8 hn8
  have hlt := hM.2.2.1
  refine Cn.of (by decide) (Nat.le_of_ble_eq_true rfl) ?_
  refine Z.eqL (lv' := [(0, .ref 30), (1, .int (nI 1))]) rfl ?_
  refine Z.iload_n (pc := 0) (i := 1) dX9_howMany_0 rfl rfl ?_
  refine Z.tableIn (pc := 1) (off := 60) (tgt := 61) dX9_howMany_1 (by decide) (by decide) (by decide) (by decide) ?_
  refine Z.aload_n (pc := 61) (i := 0) dX9_howMany_61 rfl rfl ?_
  refine Z.getIv (pc := 62) dX9_howMany_62 zf_X9_89 rfl rfl hG.2.1 ?_
  refine Z.callSi (pc := 65) dX9_howMany_65 (c_X9_size hr (by omega)) zm_X9_154 zs_X9_size rfl rfl (by decide) (by decide) (Nat.le_of_ble_eq_true rfl) ?_
  refine Z.iret (pc := 68) (ty := .int) dX9_howMany_68 rfl rfl ?_
  exact ⟨rfl, rfl⟩
set_option maxRecDepth 100000 in
set_option maxHeartbeats 400000 in
theorem c_X9_howMany_2 {h : hp} {n hr : Nat} {k s f : zF} (hM : Mm h n hr k s f) {len fd ho sz np : Nat} {pg sg so se : zF} (hP : MP h len pg) (hG : MG h n k s f hr fd ho) (hE : Me h sz sg so se) (hK0 : h.1 30 0 = nI np)  : Cn yX9_howMany cX9_howMany 2 (some .int) 5 [.ref 30, .int (nI 2)] h (z_eq (some (.int (cnI len n k s f hr fd ho sz np 2))) h) := by
  have hn8 := hM.2.2.2.1.1
  have hp8 := p8 hn8
  have hlt := hM.2.2.1
  refine Cn.of (by decide) (Nat.le_of_ble_eq_true rfl) ?_
  refine Z.eqL (lv' := [(0, .ref 30), (1, .int (nI 2))]) rfl ?_
  refine Z.iload_n (pc := 0) (i := 1) dX9_howMany_0 rfl rfl ?_
  refine Z.tableIn (pc := 1) (off := 68) (tgt := 69) dX9_howMany_1 (by decide) (by decide) (by decide) (by decide) ?_
  refine Z.aload_n (pc := 69) (i := 0) dX9_howMany_69 rfl rfl ?_
  refine Z.getIv (pc := 70) dX9_howMany_70 zf_X9_86 rfl rfl hG.2.2.1 ?_
  refine Z.iret (pc := 73) (ty := .int) dX9_howMany_73 rfl rfl ?_
  exact ⟨rfl, rfl⟩
set_option maxRecDepth 100000 in
set_option maxHeartbeats 400000 in
theorem c_X9_howMany_3 {h : hp} {n hr : Nat} {k s f : zF} (hM : Mm h n hr k s f) {len fd ho sz np : Nat} {pg sg so se : zF} (hP : MP h len pg) (hG : MG h n k s f hr fd ho) (hE : Me h sz sg so se) (hK0 : h.1 30 0 = nI np)  : Cn yX9_howMany cX9_howMany 2 (some .int) 5 [.ref 30, .int (nI 3)] h (z_eq (some (.int (cnI len n k s f hr fd ho sz np 3))) h) := by
  have hn8 := hM.2.2.2.1.1
  have hp8 := p8 hn8
  have hlt := hM.2.2.1
  refine Cn.of (by decide) (Nat.le_of_ble_eq_true rfl) ?_
  refine Z.eqL (lv' := [(0, .ref 30), (1, .int (nI 3))]) rfl ?_
  refine Z.iload_n (pc := 0) (i := 1) dX9_howMany_0 rfl rfl ?_
  refine Z.tableIn (pc := 1) (off := 73) (tgt := 74) dX9_howMany_1 (by decide) (by decide) (by decide) (by decide) ?_
  refine Z.aload_n (pc := 74) (i := 0) dX9_howMany_74 rfl rfl ?_
  refine Z.getIv (pc := 75) dX9_howMany_75 zf_X9_92 rfl rfl hG.2.2.2.1 ?_
  refine Z.iret (pc := 78) (ty := .int) dX9_howMany_78 rfl rfl ?_
  exact ⟨rfl, rfl⟩
set_option maxRecDepth 100000 in
set_option maxHeartbeats 400000 in
theorem c_X9_howMany_4 {h : hp} {n hr : Nat} {k s f : zF} (hM : Mm h n hr k s f) {len fd ho sz np : Nat} {pg sg so se : zF} (hP : MP h len pg) (hG : MG h n k s f hr fd ho) (hE : Me h sz sg so se) (hK0 : h.1 30 0 = nI np)  : Cn yX9_howMany cX9_howMany 2 (some .int) 5 [.ref 30, .int (nI 4)] h (z_eq (some (.int (cnI len n k s f hr fd ho sz np 4))) h) := by
  have hn8 := hM.2.2.2.1.1
  have hp8 := p8 hn8
  have hlt := hM.2.2.1
  refine Cn.of (by decide) (Nat.le_of_ble_eq_true rfl) ?_
  refine Z.eqL (lv' := [(0, .ref 30), (1, .int (nI 4))]) rfl ?_
  refine Z.iload_n (pc := 0) (i := 1) dX9_howMany_0 rfl rfl ?_
  refine Z.tableIn (pc := 1) (off := 78) (tgt := 79) dX9_howMany_1 (by decide) (by decide) (by decide) (by decide) ?_
  refine Z.aload_n (pc := 79) (i := 0) dX9_howMany_79 rfl rfl ?_
  refine Z.callVi (pc := 80) dX9_howMany_80 (c_X9_shyAll hM) zm_X9_247 zv_X9_shyAll rfl rfl rfl rfl (by decide) (by decide) (Nat.le_of_ble_eq_true rfl) ?_
  refine Z.iret (pc := 83) (ty := .int) dX9_howMany_83 rfl rfl ?_
  exact ⟨rfl, rfl⟩
set_option maxRecDepth 100000 in
set_option maxHeartbeats 400000 in
theorem c_X9_howMany_5 {h : hp} {n hr : Nat} {k s f : zF} (hM : Mm h n hr k s f) {len fd ho sz np : Nat} {pg sg so se : zF} (hP : MP h len pg) (hG : MG h n k s f hr fd ho) (hE : Me h sz sg so se) (hK0 : h.1 30 0 = nI np)  : Cn yX9_howMany cX9_howMany 2 (some .int) 5 [.ref 30, .int (nI 5)] h (z_eq (some (.int (cnI len n k s f hr fd ho sz np 5))) h) := by
  have hn8 := hM.2.2.2.1.1
  have hp8 := p8 hn8
  have hlt := hM.2.2.1
  refine Cn.of (by decide) (Nat.le_of_ble_eq_true rfl) ?_
  refine Z.eqL (lv' := [(0, .ref 30), (1, .int (nI 5))]) rfl ?_
  refine Z.iload_n (pc := 0) (i := 1) dX9_howMany_0 rfl rfl ?_
  refine Z.tableIn (pc := 1) (off := 83) (tgt := 84) dX9_howMany_1 (by decide) (by decide) (by decide) (by decide) ?_
  refine Z.aload_n (pc := 84) (i := 0) dX9_howMany_84 rfl rfl ?_
  refine Z.aload_n (pc := 85) (i := 0) dX9_howMany_85 rfl rfl ?_
  refine Z.callVi (pc := 86) dX9_howMany_86 (c_X9_gone hM) zm_X9_114 zv_X9_gone rfl rfl rfl rfl (by decide) (by decide) (Nat.le_of_ble_eq_true rfl) ?_
  refine Z.callVi (pc := 89) dX9_howMany_89 (c_X9_countsOf hM _ (gon_lt n hr)) zm_X9_117 zv_X9_countsOf rfl rfl rfl rfl (by decide) (by decide) (Nat.le_of_ble_eq_true rfl) ?_
  refine Z.iret (pc := 92) (ty := .int) dX9_howMany_92 rfl rfl ?_
  exact ⟨rfl, rfl⟩
set_option maxRecDepth 100000 in
set_option maxHeartbeats 400000 in
theorem c_X9_howMany_6 {h : hp} {n hr : Nat} {k s f : zF} (hM : Mm h n hr k s f) {len fd ho sz np : Nat} {pg sg so se : zF} (hP : MP h len pg) (hG : MG h n k s f hr fd ho) (hE : Me h sz sg so se) (hK0 : h.1 30 0 = nI np)  : Cn yX9_howMany cX9_howMany 2 (some .int) 5 [.ref 30, .int (nI 6)] h (z_eq (some (.int (cnI len n k s f hr fd ho sz np 6))) h) := by
  have hn8 := hM.2.2.2.1.1
  have hp8 := p8 hn8
  have hlt := hM.2.2.1
  refine Cn.of (by decide) (Nat.le_of_ble_eq_true rfl) ?_
  refine Z.eqL (lv' := [(0, .ref 30), (1, .int (nI 6))]) rfl ?_
  refine Z.iload_n (pc := 0) (i := 1) dX9_howMany_0 rfl rfl ?_
  refine Z.tableIn (pc := 1) (off := 92) (tgt := 93) dX9_howMany_1 (by decide) (by decide) (by decide) (by decide) ?_
  refine Z.aload_n (pc := 93) (i := 0) dX9_howMany_93 rfl rfl ?_
  refine Z.callVi (pc := 94) dX9_howMany_94 (c_X9_alone hM) zm_X9_250 zv_X9_alone rfl rfl rfl rfl (by decide) (by decide) (Nat.le_of_ble_eq_true rfl) ?_
  refine Z.iret (pc := 97) (ty := .int) dX9_howMany_97 rfl rfl ?_
  exact ⟨rfl, rfl⟩
set_option maxRecDepth 100000 in
set_option maxHeartbeats 400000 in
theorem c_X9_howMany_7 {h : hp} {n hr : Nat} {k s f : zF} (hM : Mm h n hr k s f) {len fd ho sz np : Nat} {pg sg so se : zF} (hP : MP h len pg) (hG : MG h n k s f hr fd ho) (hE : Me h sz sg so se) (hK0 : h.1 30 0 = nI np)  : Cn yX9_howMany cX9_howMany 2 (some .int) 5 [.ref 30, .int (nI 7)] h (z_eq (some (.int (cnI len n k s f hr fd ho sz np 7))) h) := by
  have hn8 := hM.2.2.2.1.1
  have hp8 := p8 hn8
  have hlt := hM.2.2.1
  refine Cn.of (by decide) (Nat.le_of_ble_eq_true rfl) ?_
  refine Z.eqL (lv' := [(0, .ref 30), (1, .int (nI 7))]) rfl ?_
  refine Z.iload_n (pc := 0) (i := 1) dX9_howMany_0 rfl rfl ?_
  refine Z.tableIn (pc := 1) (off := 97) (tgt := 98) dX9_howMany_1 (by decide) (by decide) (by decide) (by decide) ?_
  refine Z.aload_n (pc := 98) (i := 0) dX9_howMany_98 rfl rfl ?_
  refine Z.getIv (pc := 99) dX9_howMany_99 zf_X9_98 rfl rfl hE.1 ?_
  refine Z.iret (pc := 102) (ty := .int) dX9_howMany_102 rfl rfl ?_
  exact ⟨rfl, rfl⟩
set_option maxRecDepth 100000 in
set_option maxHeartbeats 400000 in
theorem c_X9_howMany_8 {h : hp} {n hr : Nat} {k s f : zF} (hM : Mm h n hr k s f) {len fd ho sz np : Nat} {pg sg so se : zF} (hP : MP h len pg) (hG : MG h n k s f hr fd ho) (hE : Me h sz sg so se) (hK0 : h.1 30 0 = nI np)  : Cn yX9_howMany cX9_howMany 2 (some .int) 5 [.ref 30, .int (nI 8)] h (z_eq (some (.int (cnI len n k s f hr fd ho sz np 8))) h) := by
  have hn8 := hM.2.2.2.1.1
  have hp8 := p8 hn8
  have hlt := hM.2.2.1
  refine Cn.of (by decide) (Nat.le_of_ble_eq_true rfl) ?_
  refine Z.eqL (lv' := [(0, .ref 30), (1, .int (nI 8))]) rfl ?_
  refine Z.iload_n (pc := 0) (i := 1) dX9_howMany_0 rfl rfl ?_
  refine Z.tableIn (pc := 1) (off := 102) (tgt := 103) dX9_howMany_1 (by decide) (by decide) (by decide) (by decide) ?_
  refine Z.aload_n (pc := 103) (i := 0) dX9_howMany_103 rfl rfl ?_
  refine Z.getIv (pc := 104) dX9_howMany_104 zf_X9_54 rfl rfl hP.1 ?_
  refine Z.iret (pc := 107) (ty := .int) dX9_howMany_107 rfl rfl ?_
  exact ⟨rfl, rfl⟩
set_option maxRecDepth 100000 in
set_option maxHeartbeats 400000 in
theorem c_X9_howMany_9 {h : hp} {n hr : Nat} {k s f : zF} (hM : Mm h n hr k s f) {len fd ho sz np : Nat} {pg sg so se : zF} (hP : MP h len pg) (hG : MG h n k s f hr fd ho) (hE : Me h sz sg so se) (hK0 : h.1 30 0 = nI np)  : Cn yX9_howMany cX9_howMany 2 (some .int) 5 [.ref 30, .int (nI 9)] h (z_eq (some (.int (cnI len n k s f hr fd ho sz np 9))) h) := by
  have hn8 := hM.2.2.2.1.1
  have hp8 := p8 hn8
  have hlt := hM.2.2.1
  refine Cn.of (by decide) (Nat.le_of_ble_eq_true rfl) ?_
  refine Z.eqL (lv' := [(0, .ref 30), (1, .int (nI 9))]) rfl ?_
  refine Z.iload_n (pc := 0) (i := 1) dX9_howMany_0 rfl rfl ?_
  refine Z.tableIn (pc := 1) (off := 107) (tgt := 108) dX9_howMany_1 (by decide) (by decide) (by decide) (by decide) ?_
  refine Z.aload_n (pc := 108) (i := 0) dX9_howMany_108 rfl rfl ?_
  refine Z.getIv (pc := 109) dX9_howMany_109 zf_X9_95 rfl rfl hK0 ?_
  refine Z.iret (pc := 112) (ty := .int) dX9_howMany_112 rfl rfl ?_
  exact ⟨rfl, rfl⟩
set_option maxRecDepth 100000 in
set_option maxHeartbeats 400000 in
theorem c_X9_howMany_out {h : hp} (w : Int32) (q : inR w 0 9 = false)  : Cn yX9_howMany cX9_howMany 2 (some .int) 5 [.ref 30, .int w] h (z_eq (some (.int (-102))) h) := by
  refine Cn.of (by decide) (Nat.le_of_ble_eq_true rfl) ?_
  refine Z.eqL (lv' := [(0, .ref 30), (1, .int w)]) rfl ?_
  refine Z.iload_n (pc := 0) (i := 1) dX9_howMany_0 rfl rfl ?_
  refine Z.tableOut (pc := 1) (tgt := 113) dX9_howMany_1 (out9 q) (by decide) ?_
  refine Z.bipush (pc := 113) (v := (-102)) dX9_howMany_113 (by decide) ?_
  refine Z.iret (pc := 115) (ty := .int) dX9_howMany_115 rfl rfl ?_
  exact ⟨rfl, rfl⟩
theorem c_X9_howMany {h : hp} {n hr : Nat} {k s f : zF} (hM : Mm h n hr k s f) {len fd ho sz np : Nat} {pg sg so se : zF} (hP : MP h len pg) (hG : MG h n k s f hr fd ho) (hE : Me h sz sg so se) (hK0 : h.1 30 0 = nI np) (w : Nat) (hw : w ≤ 9) : Cn yX9_howMany cX9_howMany 2 (some .int) 5 [.ref 30, .int (nI w)] h (z_eq (some (.int (cnI len n k s f hr fd ho sz np w))) h) := by
  rcases (show w = 0 ∨ w = 1 ∨ w = 2 ∨ w = 3 ∨ w = 4 ∨ w = 5 ∨ w = 6 ∨ w = 7 ∨ w = 8 ∨ w = 9 by omega) with rfl | rfl | rfl | rfl | rfl | rfl | rfl | rfl | rfl | rfl
  · exact c_X9_howMany_0 hM hP hG hE hK0
  · exact c_X9_howMany_1 hM hP hG hE hK0
  · exact c_X9_howMany_2 hM hP hG hE hK0
  · exact c_X9_howMany_3 hM hP hG hE hK0
  · exact c_X9_howMany_4 hM hP hG hE hK0
  · exact c_X9_howMany_5 hM hP hG hE hK0
  · exact c_X9_howMany_6 hM hP hG hE hK0
  · exact c_X9_howMany_7 hM hP hG hE hK0
  · exact c_X9_howMany_8 hM hP hG hE hK0
  · exact c_X9_howMany_9 hM hP hG hE hK0
set_option maxRecDepth 100000 in
set_option maxHeartbeats 400000 in
theorem c_X9_count {h : hp} {len n hr fd ho sz ihr ifd iho isz np : Nat} {pg k s f sg so se ik js isg iso ise : zF} {kept : Bool} (hD : MS h ((len, pg), (n, k, s, f, hr, fd, ho), (sz, sg, so, se), kept, (ihr, ik, js, ifd, iho, (isz, isg, iso, ise)), np)) (hS : OkS ((len, pg), (n, k, s, f, hr, fd, ho), (sz, sg, so, se), kept, (ihr, ik, js, ifd, iho, (isz, isg, iso, ise)), np)) (w : Int32)  : Cn yX9_count cX9_count 2 (some .int) 6 [.ref 30, .int w] h (KM h (.int (a_count ((len, pg), (n, k, s, f, hr, fd, ho), (sz, sg, so, se), kept, (ihr, ik, js, ifd, iho, (isz, isg, iso, ise)), np) w).1) (a_count ((len, pg), (n, k, s, f, hr, fd, ho), (sz, sg, so, se), kept, (ihr, ik, js, ifd, iho, (isz, isg, iso, ise)), np) w).2) := by
  obtain ⟨hP, hG, hE, hK, hI, hX⟩ := id hD
  obtain ⟨⟨sp1, sp2⟩, ⟨sk, shl, sfd, sho, zk, zs, zf⟩, sE, sI⟩ := id hS
  have hM := hG.Mm shl sk
  have hn8 := sk.1
  have hp8 := p8 hn8
  have key : ∃ v, Cn yX9_howMany cX9_howMany 2 (some .int) 5 [.ref 30, .int w] h (z_eq (some (.int (v))) h) ∧ (KM h (.int (a_count ((len, pg), (n, k, s, f, hr, fd, ho), (sz, sg, so, se), kept, (ihr, ik, js, ifd, iho, (isz, isg, iso, ise)), np) w).1) (a_count ((len, pg), (n, k, s, f, hr, fd, ho), (sz, sg, so, se), kept, (ihr, ik, js, ifd, iho, (isz, isg, iso, ise)), np) w).2) (some (.int v)) h := by
    cases q : inR w 0 9 with
    | false => exact ⟨-102, c_X9_howMany_out w q, km (S' := ((len, pg), (n, k, s, f, hr, fd, ho), (sz, sg, so, se), kept, (ihr, ik, js, ifd, iho, (isz, isg, iso, ise)), np)) (by simp [a_count, q]) hD f9_rf⟩
    | true =>
      obtain ⟨v, hv, rfl⟩ := inR_of (b := 9) (by decide) q
      have ev : (nI v).toNatClampNeg = v := nI_clamp (by omega)
      exact ⟨_, c_X9_howMany hM hP hG hE hK.1 v hv, km (S' := ((len, pg), (n, k, s, f, hr, fd, ho), (sz, sg, so, se), kept, (ihr, ik, js, ifd, iho, (isz, isg, iso, ise)), np)) (by simp [a_count, q, ev]) hD f9_rf⟩
  obtain ⟨v, hc, hr⟩ := key
  refine Cn.of (by decide) (Nat.le_of_ble_eq_true rfl) ?_
  refine Z.eqL (lv' := [(0, .ref 30), (1, .int w)]) rfl ?_
  refine Z.aload_n (pc := 0) (i := 0) dX9_count_0 rfl rfl ?_
  refine Z.iload_n (pc := 1) (i := 1) dX9_count_1 rfl rfl ?_
  refine Z.callVi (pc := 2) dX9_count_2 (hc) zm_X9_253 zv_X9_howMany rfl rfl rfl rfl (by decide) (by decide) (Nat.le_of_ble_eq_true rfl) ?_
  refine Z.iret (pc := 5) (ty := .int) dX9_count_5 rfl rfl ?_
  exact hr
