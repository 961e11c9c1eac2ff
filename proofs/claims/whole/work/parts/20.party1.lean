set_option maxRecDepth 100000 in
set_option maxHeartbeats 400000 in
theorem c_X8_letter {h : hp} {len n hr fd ho sz ihr ifd iho isz np : Nat} {pg k s f sg so se ik js isg iso ise : zF} {kept : Bool} (hD : D h ((len, pg), (n, k, s, f, hr, fd, ho), (sz, sg, so, se), kept, (ihr, ik, js, ifd, iho, (isz, isg, iso, ise)), np)) (hS : OkS ((len, pg), (n, k, s, f, hr, fd, ho), (sz, sg, so, se), kept, (ihr, ik, js, ifd, iho, (isz, isg, iso, ise)), np)) (c : Int32)  : Cn yX8_letter cX8_letter 2 (some .int) 1 [.ref 0, .int c] h (KD h (.int (a_letter ((len, pg), (n, k, s, f, hr, fd, ho), (sz, sg, so, se), kept, (ihr, ik, js, ifd, iho, (isz, isg, iso, ise)), np) c).1) (a_letter ((len, pg), (n, k, s, f, hr, fd, ho), (sz, sg, so, se), kept, (ihr, ik, js, ifd, iho, (isz, isg, iso, ise)), np) c).2) := by
  obtain ⟨hP, hG, hE, hK, hI, hX⟩ := id hD
  obtain ⟨⟨sp1, sp2⟩, ⟨sk, shl, sfd, sho, zk, zs, zf⟩, sE, sI⟩ := id hS
  have hR := hG.Rm shl sk
  have hn8 := sk.1
  have hp8 := p8 hn8
  refine Cn.of (by decide) (Nat.le_of_ble_eq_true rfl) ?_
  refine Z.eqL (lv' := [(0, .ref 0), (1, .int c)]) rfl ?_
  refine Z.iload_n (pc := 0) (i := 1) dX8_letter_0 rfl rfl ?_
  refine Z.bipush (pc := 1) (v := (32)) dX8_letter_1 (by decide) ?_
  refine Z.icmp_lt (pc := 3) (tgt := 12) dX8_letter_3 (by decide) (fun c3 => ?_) (fun c3 => ?_)
  · have q : inR c 32 126 = false := decide_eq_false (fun w => lt_nle c3 w.1)
    refine Z.bipush (pc := 12) (v := (-102)) dX8_letter_12 (by decide) ?_
    refine Z.iret (pc := 14) (ty := .int) dX8_letter_14 rfl rfl ?_
    exact kd (S' := ((len, pg), (n, k, s, f, hr, fd, ho), (sz, sg, so, se), kept, (ihr, ik, js, ifd, iho, (isz, isg, iso, ise)), np)) (by simp [a_letter, q]) hD fr_rf
  · refine Z.iload_n (pc := 6) (i := 1) dX8_letter_6 rfl rfl ?_
    refine Z.bipush (pc := 7) (v := (126)) dX8_letter_7 (by decide) ?_
    refine Z.icmp_le (pc := 9) (tgt := 15) dX8_letter_9 (by decide) (fun c9 => ?_) (fun c9 => ?_)
    · have q : inR c 32 126 = true := decide_eq_true ⟨nlt c3, c9⟩
      refine Z.aload_n (pc := 15) (i := 0) dX8_letter_15 rfl rfl ?_
      refine Z.getR (pc := 16) dX8_letter_16 zf_X8_10 rfl rfl ?_
      refine Z.getIv (pc := 19) dX8_letter_19 zf_X8_67 rfl rfl hP.1 ?_
      refine Z.bipush (pc := 22) (v := (nI 36)) dX8_letter_22 (by decide) ?_
      refine Z.icmp_lt (pc := 24) (tgt := 30) dX8_letter_24 (by decide) (fun c24 => ?_) (fun c24 => ?_)
      · have q2 : len < 36 := (nI_ltI (by omega) (by decide)).mp c24
        refine Z.aload_n (pc := 30) (i := 0) dX8_letter_30 rfl rfl ?_
        refine Z.getR (pc := 31) dX8_letter_31 zf_X8_10 rfl rfl ?_
        refine Z.iload_n (pc := 34) (i := 1) dX8_letter_34 rfl rfl ?_
        refine Z.callVi (pc := 35) dX8_letter_35 (c_X4_append hP.1 sp1 c q2) zm_X8_71 zv_X4_append rfl rfl rfl rfl (by decide) (by decide) (Nat.le_of_ble_eq_true rfl) ?_
        refine Z.iret (pc := 38) (ty := .int) dX8_letter_38 rfl rfl ?_
        exact kd (S' := ((len + 1, upd pg len c), (n, k, s, f, hr, fd, ho), (sz, sg, so, se), kept, (ihr, ik, js, ifd, iho, (isz, isg, iso, ise)), np)) (by simp [a_letter, q]; omega) ⟨⟨rfl, by show upd (h.1 2) len c = _; rw [hP.2]⟩, hG.mv rfl rfl rfl rfl, hE.mv rfl rfl rfl rfl, hK.mv rfl, hI.mv rfl rfl rfl rfl rfl rfl rfl rfl, hX.mv hX.1 rfl rfl rfl rfl rfl rfl hX.2.2.2.2.1 hX.2.2.2.2.2.1 hX.2.2.2.2.2.2.1⟩ (by repeat (first | refine fr_up ?_ (by decide) | refine fr_row ?_ (by decide) | exact fr_rf))
      · have q2 : len = 36 := by have : ¬ len < 36 := fun w => c24 (nI_lt w (by decide)); omega
        refine Z.bipush (pc := 27) (v := (-104)) dX8_letter_27 (by decide) ?_
        refine Z.iret (pc := 29) (ty := .int) dX8_letter_29 rfl rfl ?_
        exact kd (S' := ((len, pg), (n, k, s, f, hr, fd, ho), (sz, sg, so, se), kept, (ihr, ik, js, ifd, iho, (isz, isg, iso, ise)), np)) (by simp [a_letter, q, q2]) hD fr_rf
    · have q : inR c 32 126 = false := decide_eq_false (fun w => c9 w.2)
      refine Z.bipush (pc := 12) (v := (-102)) dX8_letter_12 (by decide) ?_
      refine Z.iret (pc := 14) (ty := .int) dX8_letter_14 rfl rfl ?_
      exact kd (S' := ((len, pg), (n, k, s, f, hr, fd, ho), (sz, sg, so, se), kept, (ihr, ik, js, ifd, iho, (isz, isg, iso, ise)), np)) (by simp [a_letter, q]) hD fr_rf
set_option maxRecDepth 100000 in
set_option maxHeartbeats 400000 in
theorem c_X8_blank {h : hp} {len n hr fd ho sz ihr ifd iho isz np : Nat} {pg k s f sg so se ik js isg iso ise : zF} {kept : Bool} (hD : D h ((len, pg), (n, k, s, f, hr, fd, ho), (sz, sg, so, se), kept, (ihr, ik, js, ifd, iho, (isz, isg, iso, ise)), np)) (hS : OkS ((len, pg), (n, k, s, f, hr, fd, ho), (sz, sg, so, se), kept, (ihr, ik, js, ifd, iho, (isz, isg, iso, ise)), np))  : Cn yX8_blank cX8_blank 1 (some .int) 1 [.ref 0] h (KD h (.int (a_blank ((len, pg), (n, k, s, f, hr, fd, ho), (sz, sg, so, se), kept, (ihr, ik, js, ifd, iho, (isz, isg, iso, ise)), np)).1) (a_blank ((len, pg), (n, k, s, f, hr, fd, ho), (sz, sg, so, se), kept, (ihr, ik, js, ifd, iho, (isz, isg, iso, ise)), np)).2) := by
  obtain ⟨hP, hG, hE, hK, hI, hX⟩ := id hD
  obtain ⟨⟨sp1, sp2⟩, ⟨sk, shl, sfd, sho, zk, zs, zf⟩, sE, sI⟩ := id hS
  have hR := hG.Rm shl sk
  have hn8 := sk.1
  have hp8 := p8 hn8
  refine Cn.of (by decide) (Nat.le_of_ble_eq_true rfl) ?_
  refine Z.eqL (lv' := [(0, .ref 0)]) rfl ?_
  refine Z.aload_n (pc := 0) (i := 0) dX8_blank_0 rfl rfl ?_
  refine Z.getR (pc := 1) dX8_blank_1 zf_X8_10 rfl rfl ?_
  refine Z.callVi (pc := 4) dX8_blank_4 (c_X4_clear hP.1 sp1) zm_X8_75 zv_X4_clear rfl rfl rfl rfl (by decide) (by decide) (Nat.le_of_ble_eq_true rfl) ?_
  refine Z.iret (pc := 7) (ty := .int) dX8_blank_7 rfl rfl ?_
  exact kd (S' := ((0, pg), (n, k, s, f, hr, fd, ho), (sz, sg, so, se), kept, (ihr, ik, js, ifd, iho, (isz, isg, iso, ise)), np)) (rfl) ⟨⟨rfl, hP.2⟩, hG.mv rfl rfl rfl rfl, hE.mv rfl rfl rfl rfl, hK.mv rfl, hI.mv rfl rfl rfl rfl rfl rfl rfl rfl, hX.mv hX.1 rfl rfl rfl rfl rfl rfl hX.2.2.2.2.1 hX.2.2.2.2.2.1 hX.2.2.2.2.2.2.1⟩ (by repeat (first | refine fr_up ?_ (by decide) | refine fr_row ?_ (by decide) | exact fr_rf))
set_option maxRecDepth 100000 in
set_option maxHeartbeats 400000 in
theorem c_X8_fault {h : hp} {len n hr fd ho sz ihr ifd iho isz np : Nat} {pg k s f sg so se ik js isg iso ise : zF} {kept : Bool} (hD : D h ((len, pg), (n, k, s, f, hr, fd, ho), (sz, sg, so, se), kept, (ihr, ik, js, ifd, iho, (isz, isg, iso, ise)), np)) (hS : OkS ((len, pg), (n, k, s, f, hr, fd, ho), (sz, sg, so, se), kept, (ihr, ik, js, ifd, iho, (isz, isg, iso, ise)), np))  : Cn yX8_fault cX8_fault 1 (some .int) 8 [.ref 0] h (KD h (.int (a_fault ((len, pg), (n, k, s, f, hr, fd, ho), (sz, sg, so, se), kept, (ihr, ik, js, ifd, iho, (isz, isg, iso, ise)), np)).1) (a_fault ((len, pg), (n, k, s, f, hr, fd, ho), (sz, sg, so, se), kept, (ihr, ik, js, ifd, iho, (isz, isg, iso, ise)), np)).2) := by
  obtain ⟨hP, hG, hE, hK, hI, hX⟩ := id hD
  obtain ⟨⟨sp1, sp2⟩, ⟨sk, shl, sfd, sho, zk, zs, zf⟩, sE, sI⟩ := id hS
  have hR := hG.Rm shl sk
  have hn8 := sk.1
  have hp8 := p8 hn8
  refine Cn.of (by decide) (Nat.le_of_ble_eq_true rfl) ?_
  refine Z.eqL (lv' := [(0, .ref 0)]) rfl ?_
  refine Z.aload_n (pc := 0) (i := 0) dX8_fault_0 rfl rfl ?_
  refine Z.getR (pc := 1) dX8_fault_1 zf_X8_10 rfl rfl ?_
  refine Z.callVi (pc := 4) dX8_fault_4 (c_X4_firstFault hP.1 sp1) zm_X8_79 zv_X4_firstFault rfl rfl rfl rfl (by decide) (by decide) (Nat.le_of_ble_eq_true rfl) ?_
  refine Z.iret (pc := 7) (ty := .int) dX8_fault_7 rfl rfl ?_
  rw [hP.2]
  exact kd (S' := ((len, pg), (n, k, s, f, hr, fd, ho), (sz, sg, so, se), kept, (ihr, ik, js, ifd, iho, (isz, isg, iso, ise)), np)) (rfl) hD fr_rf
set_option maxRecDepth 100000 in
set_option maxHeartbeats 400000 in
theorem c_X8_hasParty {h : hp} {n : Nat} (hn : h.1 3 3 = nI n) (hn8 : n ≤ 8)  : Cn yX8_hasParty cX8_hasParty 1 (some .boolean) 0 [.ref 0] h (z_eq (some (.int (zb (decide (0 < n))))) h) := by
  refine Cn.of (by decide) (Nat.le_of_ble_eq_true rfl) ?_
  refine Z.eqL (lv' := [(0, .ref 0)]) rfl ?_
  refine Z.aload_n (pc := 0) (i := 0) dX8_hasParty_0 rfl rfl ?_
  refine Z.getR (pc := 1) dX8_hasParty_1 zf_X8_19 rfl rfl ?_
  refine Z.getIv (pc := 4) dX8_hasParty_4 zf_X8_98 rfl rfl hn ?_
  refine Z.if_le (pc := 7) (tgt := 14) dX8_hasParty_7 (by decide) (fun c7 => ?_) (fun c7 => ?_)
  · have q : ¬ 0 < n := fun w => nI_nle w (by omega) c7
    refine Z.iconst (pc := 14) (v := (0)) dX8_hasParty_14 (by decide) ?_
    refine Z.iret (pc := 15) (ty := .boolean) dX8_hasParty_15 rfl (by first | rfl | exact zb_nar _) ?_
    first | exact ⟨zb_f rfl (decide_eq_false q), rfl⟩ | exact ⟨zb_t rfl (decide_eq_true q), rfl⟩
  · have q : 0 < n := Nat.pos_of_ne_zero (fun w => c7 (by rw [w]; decide))
    refine Z.iconst (pc := 10) (v := (1)) dX8_hasParty_10 (by decide) ?_
    refine Z.goto (pc := 11) (tgt := 15) dX8_hasParty_11 (by decide) ?_
    refine Z.iret (pc := 15) (ty := .boolean) dX8_hasParty_15 rfl (by first | rfl | exact zb_nar _) ?_
    first | exact ⟨zb_f rfl (decide_eq_false q), rfl⟩ | exact ⟨zb_t rfl (decide_eq_true q), rfl⟩
set_option maxRecDepth 100000 in
set_option maxHeartbeats 400000 in
theorem c_X8_as {h : hp} {len n hr fd ho sz ihr ifd iho isz np : Nat} {pg k s f sg so se ik js isg iso ise : zF} {kept : Bool} (hD : D h ((len, pg), (n, k, s, f, hr, fd, ho), (sz, sg, so, se), kept, (ihr, ik, js, ifd, iho, (isz, isg, iso, ise)), np)) (hS : OkS ((len, pg), (n, k, s, f, hr, fd, ho), (sz, sg, so, se), kept, (ihr, ik, js, ifd, iho, (isz, isg, iso, ise)), np)) (g w : Int32)  : Cn yX8_as cX8_as 3 (some .int) 1 [.ref 0, .int g, .int w] h (KD h (.int (a_as ((len, pg), (n, k, s, f, hr, fd, ho), (sz, sg, so, se), kept, (ihr, ik, js, ifd, iho, (isz, isg, iso, ise)), np) g w).1) (a_as ((len, pg), (n, k, s, f, hr, fd, ho), (sz, sg, so, se), kept, (ihr, ik, js, ifd, iho, (isz, isg, iso, ise)), np) g w).2) := by
  obtain ⟨hP, hG, hE, hK, hI, hX⟩ := id hD
  obtain ⟨⟨sp1, sp2⟩, ⟨sk, shl, sfd, sho, zk, zs, zf⟩, sE, sI⟩ := id hS
  have hR := hG.Rm shl sk
  have hn8 := sk.1
  have hp8 := p8 hn8
  refine Cn.of (by decide) (Nat.le_of_ble_eq_true rfl) ?_
  refine Z.eqL (lv' := [(0, .ref 0), (1, .int g), (2, .int w)]) rfl ?_
  refine Z.aload_n (pc := 0) (i := 0) dX8_as_0 rfl rfl ?_
  refine Z.getR (pc := 1) dX8_as_1 zf_X8_19 rfl rfl ?_
  refine Z.iload_n (pc := 4) (i := 1) dX8_as_4 rfl rfl ?_
  refine Z.callVi (pc := 5) dX8_as_5 (c_X6_hasGuest (o := 3) (Or.inl rfl) hR g) zm_X8_101 zv_X6_hasGuest rfl rfl rfl rfl (by decide) (by decide) (Nat.le_of_ble_eq_true rfl) ?_
  refine Z.if_ne_b (pc := 8) (tgt := 14) dX8_as_8 (by decide) (fun c8 => ?_) (fun c8 => ?_)
  · have q : gB n g = true := c8
    obtain ⟨j, hj, rfl⟩ := gB_of q hn8
    have ej : (nI j).toNatClampNeg = j := nI_clamp (by omega)
    refine Z.iload_n (pc := 14) (i := 2) dX8_as_14 rfl rfl ?_
    refine Z.callSi (pc := 15) dX8_as_15 (c_X3_isKind w) zm_X8_113 zs_X3_isKind rfl rfl (by decide) (by decide) (Nat.le_of_ble_eq_true rfl) ?_
    refine Z.if_ne_b (pc := 18) (tgt := 24) dX8_as_18 (by decide) (fun c18 => ?_) (fun c18 => ?_)
    · refine Z.aload_n (pc := 24) (i := 0) dX8_as_24 rfl rfl ?_
      refine Z.getR (pc := 25) dX8_as_25 zf_X8_19 rfl rfl ?_
      refine Z.getR (pc := 28) dX8_as_28 zf_X8_118 rfl rfl ?_
      refine Z.iload_n (pc := 31) (i := 1) dX8_as_31 rfl rfl ?_
      refine Z.iald (pc := 32) dX8_as_32 rfl (by omega) (by decide) ?_
      refine Z.top (show _ = k j from congrFun hG.2.2.2.2.1 j) ?_
      refine Z.iload_n (pc := 33) (i := 2) dX8_as_33 rfl rfl ?_
      refine Z.callSi (pc := 34) dX8_as_34 (c_X3_isSuch _ w) zm_X8_122 zs_X3_isSuch rfl rfl (by decide) (by decide) (Nat.le_of_ble_eq_true rfl) ?_
      refine Z.if_eq_b (pc := 37) (tgt := 44) dX8_as_37 (by decide) (fun c37 => ?_) (fun c37 => ?_)
      · refine Z.iconst (pc := 44) (v := (-1)) dX8_as_44 (by decide) ?_
        refine Z.iret (pc := 45) (ty := .int) dX8_as_45 rfl rfl ?_
        exact kd (S' := ((len, pg), (n, k, s, f, hr, fd, ho), (sz, sg, so, se), kept, (ihr, ik, js, ifd, iho, (isz, isg, iso, ise)), np)) (by simp [a_as, q, c18, c37, ej]) hD fr_rf
      · refine Z.iload_n (pc := 40) (i := 1) dX8_as_40 rfl rfl ?_
        refine Z.goto (pc := 41) (tgt := 45) dX8_as_41 (by decide) ?_
        refine Z.iret (pc := 45) (ty := .int) dX8_as_45 rfl rfl ?_
        exact kd (S' := ((len, pg), (n, k, s, f, hr, fd, ho), (sz, sg, so, se), kept, (ihr, ik, js, ifd, iho, (isz, isg, iso, ise)), np)) (by simp [a_as, q, c18, c37, ej]) hD fr_rf
    · refine Z.bipush (pc := 21) (v := (-102)) dX8_as_21 (by decide) ?_
      refine Z.iret (pc := 23) (ty := .int) dX8_as_23 rfl rfl ?_
      exact kd (S' := ((len, pg), (n, k, s, f, hr, fd, ho), (sz, sg, so, se), kept, (ihr, ik, js, ifd, iho, (isz, isg, iso, ise)), np)) (by simp [a_as, q, c18]) hD fr_rf
  · have q : gB n g = false := c8
    refine Z.bipush (pc := 11) (v := (-101)) dX8_as_11 (by decide) ?_
    refine Z.iret (pc := 13) (ty := .int) dX8_as_13 rfl rfl ?_
    exact kd (S' := ((len, pg), (n, k, s, f, hr, fd, ho), (sz, sg, so, se), kept, (ihr, ik, js, ifd, iho, (isz, isg, iso, ise)), np)) (by simp [a_as, q]) hD fr_rf
set_option maxRecDepth 100000 in
set_option maxHeartbeats 400000 in
theorem c_X8_rise {h : hp} {len n hr fd ho sz ihr ifd iho isz np : Nat} {pg k s f sg so se ik js isg iso ise : zF} {kept : Bool} (hD : D h ((len, pg), (n, k, s, f, hr, fd, ho), (sz, sg, so, se), kept, (ihr, ik, js, ifd, iho, (isz, isg, iso, ise)), np)) (hS : OkS ((len, pg), (n, k, s, f, hr, fd, ho), (sz, sg, so, se), kept, (ihr, ik, js, ifd, iho, (isz, isg, iso, ise)), np)) (x : Int32)  : Cn yX8_rise cX8_rise 2 (some .int) 3 [.ref 0, .int x] h (KD h (.int (a_rise ((len, pg), (n, k, s, f, hr, fd, ho), (sz, sg, so, se), kept, (ihr, ik, js, ifd, iho, (isz, isg, iso, ise)), np) x).1) (a_rise ((len, pg), (n, k, s, f, hr, fd, ho), (sz, sg, so, se), kept, (ihr, ik, js, ifd, iho, (isz, isg, iso, ise)), np) x).2) := by
  obtain ⟨hP, hG, hE, hK, hI, hX⟩ := id hD
  obtain ⟨⟨sp1, sp2⟩, ⟨sk, shl, sfd, sho, zk, zs, zf⟩, sE, sI⟩ := id hS
  have hR := hG.Rm shl sk
  have hn8 := sk.1
  have hp8 := p8 hn8
  refine Cn.of (by decide) (Nat.le_of_ble_eq_true rfl) ?_
  refine Z.eqL (lv' := [(0, .ref 0), (1, .int x)]) rfl ?_
  refine Z.iload_n (pc := 0) (i := 1) dX8_rise_0 rfl rfl ?_
  refine Z.if_eq (pc := 1) (tgt := 18) dX8_rise_1 (by decide) (fun c1 => ?_) (fun c1 => ?_)
  · have q : riseB n x = false := by subst c1; exact decide_eq_false (fun w => absurd w.1 (by decide))
    refine Z.bipush (pc := 18) (v := (-101)) dX8_rise_18 (by decide) ?_
    refine Z.iret (pc := 20) (ty := .int) dX8_rise_20 rfl rfl ?_
    exact kd (S' := ((len, pg), (n, k, s, f, hr, fd, ho), (sz, sg, so, se), kept, (ihr, ik, js, ifd, iho, (isz, isg, iso, ise)), np)) (by simp [a_rise, q]) hD fr_rf
  · refine Z.iload_n (pc := 4) (i := 1) dX8_rise_4 rfl rfl ?_
    refine Z.aload_n (pc := 5) (i := 0) dX8_rise_5 rfl rfl ?_
    refine Z.getR (pc := 6) dX8_rise_6 zf_X8_19 rfl rfl ?_
    refine Z.callVi (pc := 9) dX8_rise_9 (c_X6_everyone0 (o := 3) (Or.inl rfl) hG.1 hn8) zm_X8_126 zv_X6_everyone rfl rfl rfl rfl (by decide) (by decide) (Nat.le_of_ble_eq_true rfl) ?_
    refine Z.iconst (pc := 12) (v := (-1)) dX8_rise_12 (by decide) ?_
    refine Z.ixor (pc := 13) dX8_rise_13 ?_
    refine Z.iand (pc := 14) dX8_rise_14 ?_
    refine Z.if_eq (pc := 15) (tgt := 21) dX8_rise_15 (by decide) (fun c15 => ?_) (fun c15 => ?_)
    · have q : riseB n x = true := (rise_iff hn8 c1).mp c15
      obtain ⟨j, hj0, hj, rfl⟩ := riseB_of hn8 q
      have ej : (nI j).toNatClampNeg = j := nI_clamp (by omega)
      refine Z.iload_n (pc := 21) (i := 1) dX8_rise_21 rfl rfl ?_
      refine Z.aload_n (pc := 22) (i := 0) dX8_rise_22 rfl rfl ?_
      refine Z.getR (pc := 23) dX8_rise_23 zf_X8_19 rfl rfl ?_
      refine Z.getIv (pc := 26) dX8_rise_26 zf_X8_129 rfl rfl hG.2.1 ?_
      refine Z.iconst (pc := 29) (v := (-1)) dX8_rise_29 (by decide) ?_
      refine Z.ixor (pc := 30) dX8_rise_30 ?_
      refine Z.iand (pc := 31) dX8_rise_31 ?_
      refine Z.top (nb_dif _ _) ?_
      refine Z.if_ne (pc := 32) (tgt := 47) dX8_rise_32 (by decide) (fun c32 => ?_) (fun c32 => ?_)
      · have q2 : ¬ dif j hr = 0 := fun w => c32 (by rw [w]; rfl)
        have q3 : riB k s f n hr j = false := by simp [riB, chB, q2]
        refine Z.bipush (pc := 47) (v := (-103)) dX8_rise_47 (by decide) ?_
        refine Z.iret (pc := 49) (ty := .int) dX8_rise_49 rfl rfl ?_
        exact kd (S' := ((len, pg), (n, k, s, f, hr, fd, ho), (sz, sg, so, se), kept, (ihr, ik, js, ifd, iho, (isz, isg, iso, ise)), np)) (by simp [a_rise, q, q3, ej]) hD fr_rf
      · have q2 : dif j hr = 0 := (nI_0' (Nat.lt_of_le_of_lt (dif_le _ _) (by omega))).mp c32
        refine Z.aload_n (pc := 35) (i := 0) dX8_rise_35 rfl rfl ?_
        refine Z.getR (pc := 36) dX8_rise_36 zf_X8_19 rfl rfl ?_
        refine Z.iload_n (pc := 39) (i := 1) dX8_rise_39 rfl rfl ?_
        refine Z.callVi (pc := 40) dX8_rise_40 (c_X6_whoCanGo (o := 3) (Or.inl rfl) hR j hj) zm_X8_132 zv_X6_whoCanGo rfl rfl rfl rfl (by decide) (by decide) (Nat.le_of_ble_eq_true rfl) ?_
        refine Z.iload_n (pc := 43) (i := 1) dX8_rise_43 rfl rfl ?_
        refine Z.icmp_eq (pc := 44) (tgt := 50) dX8_rise_44 (by decide) (fun c44 => ?_) (fun c44 => ?_)
        · have q4 : wcg k s f n hr j = j := (nI_eq (Nat.lt_of_le_of_lt wcg_le (by omega)) (by omega)).mp c44
          have q3 : riB k s f n hr j = true := by simp [riB, chB, q2, q4]
          refine Z.aload_n (pc := 50) (i := 0) dX8_rise_50 rfl rfl ?_
          refine Z.getR (pc := 51) dX8_rise_51 zf_X8_19 rfl rfl ?_
          refine Z.dup (pc := 54) dX8_rise_54 rfl ?_
          refine Z.getIv (pc := 55) dX8_rise_55 zf_X8_129 rfl rfl hG.2.1 ?_
          refine Z.iload_n (pc := 58) (i := 1) dX8_rise_58 rfl rfl ?_
          refine Z.iconst (pc := 59) (v := (-1)) dX8_rise_59 (by decide) ?_
          refine Z.ixor (pc := 60) dX8_rise_60 ?_
          refine Z.iand (pc := 61) dX8_rise_61 ?_
          refine Z.top (nb_dif _ _) ?_
          refine Z.putI (pc := 62) dX8_rise_62 zp_X8_129 rfl rfl rfl rfl ?_
          refine Z.iload_n (pc := 65) (i := 1) dX8_rise_65 rfl rfl ?_
          refine Z.callSi (pc := 66) dX8_rise_66 (c_J6_bitCount_0f7a4 j (by omega)) zm_X8_135 zs_J6_bitCount_0f7a4 rfl rfl (by decide) (by decide) (Nat.le_of_ble_eq_true rfl) ?_
          refine Z.iret (pc := 69) (ty := .int) dX8_rise_69 rfl rfl ?_
          exact kd (S' := ((len, pg), (n, k, s, f, dif hr j, fd, ho), (sz, sg, so, se), kept, (ihr, ik, js, ifd, iho, (isz, isg, iso, ise)), np)) (by simp [a_rise, q, q3, ej]) ⟨hP.mv rfl rfl, ⟨hG.1, rfl, hG.2.2⟩, hE.mv rfl rfl rfl rfl, hK.mv rfl, hI.mv rfl rfl rfl rfl rfl rfl rfl rfl, hX.mv hX.1 rfl rfl rfl rfl rfl rfl hX.2.2.2.2.1 hX.2.2.2.2.2.1 hX.2.2.2.2.2.2.1⟩ (by repeat (first | refine fr_up ?_ (by decide) | refine fr_row ?_ (by decide) | exact fr_rf))
        · have q4 : ¬ wcg k s f n hr j = j := fun w => c44 (by rw [w])
          have q3 : riB k s f n hr j = false := by simp [riB, q4]
          refine Z.bipush (pc := 47) (v := (-103)) dX8_rise_47 (by decide) ?_
          refine Z.iret (pc := 49) (ty := .int) dX8_rise_49 rfl rfl ?_
          exact kd (S' := ((len, pg), (n, k, s, f, hr, fd, ho), (sz, sg, so, se), kept, (ihr, ik, js, ifd, iho, (isz, isg, iso, ise)), np)) (by simp [a_rise, q, q3, ej]) hD fr_rf
    · have q : riseB n x = false := by cases w : riseB n x with | false => rfl | true => exact absurd ((rise_iff hn8 c1).mpr w) c15
      refine Z.bipush (pc := 18) (v := (-101)) dX8_rise_18 (by decide) ?_
      refine Z.iret (pc := 20) (ty := .int) dX8_rise_20 rfl rfl ?_
      exact kd (S' := ((len, pg), (n, k, s, f, hr, fd, ho), (sz, sg, so, se), kept, (ihr, ik, js, ifd, iho, (isz, isg, iso, ise)), np)) (by simp [a_rise, q]) hD fr_rf
set_option maxRecDepth 100000 in
set_option maxHeartbeats 400000 in
theorem c_X8_hour {h : hp} {len n hr fd ho sz ihr ifd iho isz np : Nat} {pg k s f sg so se ik js isg iso ise : zF} {kept : Bool} (hD : D h ((len, pg), (n, k, s, f, hr, fd, ho), (sz, sg, so, se), kept, (ihr, ik, js, ifd, iho, (isz, isg, iso, ise)), np)) (hS : OkS ((len, pg), (n, k, s, f, hr, fd, ho), (sz, sg, so, se), kept, (ihr, ik, js, ifd, iho, (isz, isg, iso, ise)), np))  : Cn yX8_hour cX8_hour 1 (some .int) 5 [.ref 0] h (KD h (.int (a_hour ((len, pg), (n, k, s, f, hr, fd, ho), (sz, sg, so, se), kept, (ihr, ik, js, ifd, iho, (isz, isg, iso, ise)), np)).1) (a_hour ((len, pg), (n, k, s, f, hr, fd, ho), (sz, sg, so, se), kept, (ihr, ik, js, ifd, iho, (isz, isg, iso, ise)), np)).2) := by
  obtain ⟨hP, hG, hE, hK, hI, hX⟩ := id hD
  obtain ⟨⟨sp1, sp2⟩, ⟨sk, shl, sfd, sho, zk, zs, zf⟩, sE, sI⟩ := id hS
  have hR := hG.Rm shl sk
  have hn8 := sk.1
  have hp8 := p8 hn8
  refine Cn.of (by decide) (Nat.le_of_ble_eq_true rfl) ?_
  refine Z.eqL (lv' := [(0, .ref 0)]) rfl ?_
  refine Z.aload_n (pc := 0) (i := 0) dX8_hour_0 rfl rfl ?_
  refine Z.callVi (pc := 1) dX8_hour_1 (c_X8_hasParty hG.1 hn8) zm_X8_140 zv_X8_hasParty rfl rfl rfl rfl (by decide) (by decide) (Nat.le_of_ble_eq_true rfl) ?_
  refine Z.if_ne_b (pc := 4) (tgt := 10) dX8_hour_4 (by decide) (fun c4 => ?_) (fun c4 => ?_)
  · have n0 : ¬ n = 0 := by have := of_decide_eq_true c4; omega
    refine Z.aload_n (pc := 10) (i := 0) dX8_hour_10 rfl rfl ?_
    refine Z.getR (pc := 11) dX8_hour_11 zf_X8_19 rfl rfl ?_
    refine Z.getIv (pc := 14) dX8_hour_14 zf_X8_143 rfl rfl hG.2.2.2.1 ?_
    refine Z.sipush (pc := 17) (v := (nI 999)) dX8_hour_17 (by decide) ?_
    refine Z.icmp_lt (pc := 20) (tgt := 26) dX8_hour_20 (by decide) (fun c20 => ?_) (fun c20 => ?_)
    · have q : ¬ ho = 999 := fun w => by rw [w] at c20; exact absurd c20 (by decide)
      refine Z.aload_n (pc := 26) (i := 0) dX8_hour_26 rfl rfl ?_
      refine Z.getR (pc := 27) dX8_hour_27 zf_X8_19 rfl rfl ?_
      refine Z.callVi (pc := 30) dX8_hour_30 (c_X6_letHourPass (o := 3) (Or.inl rfl) hR hG.2.2.1 sfd) zm_X8_146 zv_X6_letHourPass rfl rfl rfl rfl (by decide) (by decide) (Nat.le_of_ble_eq_true rfl) ?_
      refine Z.top (pk_sub hsH_pop) ?_
      refine Z.iret (pc := 33) (ty := .int) dX8_hour_33 rfl rfl ?_
      exact kd (S' := ((len, pg), (n, k, hsS s hr fd, f, hsH k s f n hr fd, fd - pop hr, ho + 1), (sz, sg, so, se), kept, (ihr, ik, js, ifd, iho, (isz, isg, iso, ise)), np)) (by simp [a_hour, n0, q]) ⟨hP.mv rfl rfl, ⟨hG.1, rfl, rfl, by show h.1 3 6 + 1 = _; rw [hG.2.2.2.1]; exact nI_1 ho, hG.2.2.2.2.1, rfl, hG.2.2.2.2.2.2⟩, hE.mv rfl rfl rfl rfl, hK.mv rfl, hI.mv rfl rfl rfl rfl rfl rfl rfl rfl, hX.mv hX.1 rfl rfl rfl rfl rfl rfl hX.2.2.2.2.1 hX.2.2.2.2.2.1 hX.2.2.2.2.2.2.1⟩ (fr_hrX fr_rf (by decide))
    · have q : ho = 999 := by have : ¬ ho < 999 := fun w => c20 (nI_lt w (by decide)); omega
      refine Z.bipush (pc := 23) (v := (-104)) dX8_hour_23 (by decide) ?_
      refine Z.iret (pc := 25) (ty := .int) dX8_hour_25 rfl rfl ?_
      exact kd (S' := ((len, pg), (n, k, s, f, hr, fd, ho), (sz, sg, so, se), kept, (ihr, ik, js, ifd, iho, (isz, isg, iso, ise)), np)) (by simp [a_hour, n0, q]) hD fr_rf
  · have n0 : n = 0 := by have := of_decide_eq_false c4; omega
    refine Z.bipush (pc := 7) (v := (-103)) dX8_hour_7 (by decide) ?_
    refine Z.iret (pc := 9) (ty := .int) dX8_hour_9 rfl rfl ?_
    exact kd (S' := ((len, pg), (n, k, s, f, hr, fd, ho), (sz, sg, so, se), kept, (ihr, ik, js, ifd, iho, (isz, isg, iso, ise)), np)) (by simp [a_hour, n0]) hD fr_rf
set_option maxRecDepth 100000 in
set_option maxHeartbeats 400000 in
theorem c_X8_hint {h : hp} {len n hr fd ho sz ihr ifd iho isz np : Nat} {pg k s f sg so se ik js isg iso ise : zF} {kept : Bool} (hD : D h ((len, pg), (n, k, s, f, hr, fd, ho), (sz, sg, so, se), kept, (ihr, ik, js, ifd, iho, (isz, isg, iso, ise)), np)) (hS : OkS ((len, pg), (n, k, s, f, hr, fd, ho), (sz, sg, so, se), kept, (ihr, ik, js, ifd, iho, (isz, isg, iso, ise)), np)) (g : Int32)  : Cn yX8_hint cX8_hint 2 (some .int) 2 [.ref 0, .int g] h (KD h (.int (a_hint ((len, pg), (n, k, s, f, hr, fd, ho), (sz, sg, so, se), kept, (ihr, ik, js, ifd, iho, (isz, isg, iso, ise)), np) g).1) (a_hint ((len, pg), (n, k, s, f, hr, fd, ho), (sz, sg, so, se), kept, (ihr, ik, js, ifd, iho, (isz, isg, iso, ise)), np) g).2) := by
  obtain ⟨hP, hG, hE, hK, hI, hX⟩ := id hD
  obtain ⟨⟨sp1, sp2⟩, ⟨sk, shl, sfd, sho, zk, zs, zf⟩, sE, sI⟩ := id hS
  have hR := hG.Rm shl sk
  have hn8 := sk.1
  have hp8 := p8 hn8
  refine Cn.of (by decide) (Nat.le_of_ble_eq_true rfl) ?_
  refine Z.eqL (lv' := [(0, .ref 0), (1, .int g)]) rfl ?_
  refine Z.aload_n (pc := 0) (i := 0) dX8_hint_0 rfl rfl ?_
  refine Z.getR (pc := 1) dX8_hint_1 zf_X8_19 rfl rfl ?_
  refine Z.iload_n (pc := 4) (i := 1) dX8_hint_4 rfl rfl ?_
  refine Z.callVi (pc := 5) dX8_hint_5 (c_X6_hasGuest (o := 3) (Or.inl rfl) hR g) zm_X8_101 zv_X6_hasGuest rfl rfl rfl rfl (by decide) (by decide) (Nat.le_of_ble_eq_true rfl) ?_
  refine Z.if_ne_b (pc := 8) (tgt := 14) dX8_hint_8 (by decide) (fun c8 => ?_) (fun c8 => ?_)
  · have q : gB n g = true := c8
    obtain ⟨j, hj, rfl⟩ := gB_of q hn8
    have ej : (nI j).toNatClampNeg = j := nI_clamp (by omega)
    refine Z.aload_n (pc := 14) (i := 0) dX8_hint_14 rfl rfl ?_
    refine Z.getR (pc := 15) dX8_hint_15 zf_X8_19 rfl rfl ?_
    refine Z.iload_n (pc := 18) (i := 1) dX8_hint_18 rfl rfl ?_
    refine Z.callVi (pc := 19) dX8_hint_19 (c_X6_isHere (o := 3) (Or.inl rfl) hR j (by omega)) zm_X8_149 zv_X6_isHere rfl rfl rfl rfl (by decide) (by decide) (Nat.le_of_ble_eq_true rfl) ?_
    refine Z.if_ne_b (pc := 22) (tgt := 28) dX8_hint_22 (by decide) (fun c22 => ?_) (fun c22 => ?_)
    · refine Z.aload_n (pc := 28) (i := 0) dX8_hint_28 rfl rfl ?_
      refine Z.getR (pc := 29) dX8_hint_29 zf_X8_19 rfl rfl ?_
      refine Z.iload_n (pc := 32) (i := 1) dX8_hint_32 rfl rfl ?_
      refine Z.callVv (pc := 33) dX8_hint_33 (c_X6_makeLessShy (o := 3) (Or.inl rfl) hR j hj) zm_X8_152 zv_X6_makeLessShy rfl rfl rfl rfl (by decide) (by decide) (Nat.le_of_ble_eq_true rfl) ?_
      refine Z.aload_n (pc := 36) (i := 0) dX8_hint_36 rfl rfl ?_
      refine Z.getR (pc := 37) dX8_hint_37 zf_X8_19 rfl rfl ?_
      refine Z.getR (pc := 40) dX8_hint_40 zf_X8_156 rfl rfl ?_
      refine Z.iload_n (pc := 43) (i := 1) dX8_hint_43 rfl rfl ?_
      refine Z.iald (pc := 44) dX8_hint_44 rfl (by omega) (by decide) ?_
      refine Z.top (show _ = lsI (s j) from upd_at _ _ _) ?_
      refine Z.iret (pc := 45) (ty := .int) dX8_hint_45 rfl rfl ?_
      exact kd (S' := ((len, pg), (n, k, upd s j (lsI (s j)), f, hr, fd, ho), (sz, sg, so, se), kept, (ihr, ik, js, ifd, iho, (isz, isg, iso, ise)), np)) (by simp [a_hint, q, ej, c22]) ⟨hP.mv rfl rfl, ⟨hG.1, hG.2.1, hG.2.2.1, hG.2.2.2.1, hG.2.2.2.2.1, by show upd (h.1 5) j _ = _; rw [hG.2.2.2.2.2.1], hG.2.2.2.2.2.2⟩, hE.mv rfl rfl rfl rfl, hK.mv rfl, hI.mv rfl rfl rfl rfl rfl rfl rfl rfl, hX.mv hX.1 rfl rfl rfl rfl rfl rfl hX.2.2.2.2.1 hX.2.2.2.2.2.1 hX.2.2.2.2.2.2.1⟩ (by repeat (first | refine fr_up ?_ (by decide) | refine fr_row ?_ (by decide) | exact fr_rf))
    · refine Z.bipush (pc := 25) (v := (-103)) dX8_hint_25 (by decide) ?_
      refine Z.iret (pc := 27) (ty := .int) dX8_hint_27 rfl rfl ?_
      exact kd (S' := ((len, pg), (n, k, s, f, hr, fd, ho), (sz, sg, so, se), kept, (ihr, ik, js, ifd, iho, (isz, isg, iso, ise)), np)) (by simp [a_hint, q, ej, c22]) hD fr_rf
  · have q : gB n g = false := c8
    refine Z.bipush (pc := 11) (v := (-101)) dX8_hint_11 (by decide) ?_
    refine Z.iret (pc := 13) (ty := .int) dX8_hint_13 rfl rfl ?_
    exact kd (S' := ((len, pg), (n, k, s, f, hr, fd, ho), (sz, sg, so, se), kept, (ihr, ik, js, ifd, iho, (isz, isg, iso, ise)), np)) (by simp [a_hint, q]) hD fr_rf
set_option maxRecDepth 100000 in
set_option maxHeartbeats 400000 in
theorem c_X8_back {h : hp} {len n hr fd ho sz ihr ifd iho isz np : Nat} {pg k s f sg so se ik js isg iso ise : zF} {kept : Bool} (hD : D h ((len, pg), (n, k, s, f, hr, fd, ho), (sz, sg, so, se), kept, (ihr, ik, js, ifd, iho, (isz, isg, iso, ise)), np)) (hS : OkS ((len, pg), (n, k, s, f, hr, fd, ho), (sz, sg, so, se), kept, (ihr, ik, js, ifd, iho, (isz, isg, iso, ise)), np)) (g : Int32)  : Cn yX8_back cX8_back 2 (some .int) 2 [.ref 0, .int g] h (KD h (.int (a_back ((len, pg), (n, k, s, f, hr, fd, ho), (sz, sg, so, se), kept, (ihr, ik, js, ifd, iho, (isz, isg, iso, ise)), np) g).1) (a_back ((len, pg), (n, k, s, f, hr, fd, ho), (sz, sg, so, se), kept, (ihr, ik, js, ifd, iho, (isz, isg, iso, ise)), np) g).2) := by
  obtain ⟨hP, hG, hE, hK, hI, hX⟩ := id hD
  obtain ⟨⟨sp1, sp2⟩, ⟨sk, shl, sfd, sho, zk, zs, zf⟩, sE, sI⟩ := id hS
  have hR := hG.Rm shl sk
  have hn8 := sk.1
  have hp8 := p8 hn8
  refine Cn.of (by decide) (Nat.le_of_ble_eq_true rfl) ?_
  refine Z.eqL (lv' := [(0, .ref 0), (1, .int g)]) rfl ?_
  refine Z.aload_n (pc := 0) (i := 0) dX8_back_0 rfl rfl ?_
  refine Z.getR (pc := 1) dX8_back_1 zf_X8_19 rfl rfl ?_
  refine Z.iload_n (pc := 4) (i := 1) dX8_back_4 rfl rfl ?_
  refine Z.callVi (pc := 5) dX8_back_5 (c_X6_hasGuest (o := 3) (Or.inl rfl) hR g) zm_X8_101 zv_X6_hasGuest rfl rfl rfl rfl (by decide) (by decide) (Nat.le_of_ble_eq_true rfl) ?_
  refine Z.if_ne_b (pc := 8) (tgt := 14) dX8_back_8 (by decide) (fun c8 => ?_) (fun c8 => ?_)
  · have q : gB n g = true := c8
    obtain ⟨j, hj, rfl⟩ := gB_of q hn8
    have ej : (nI j).toNatClampNeg = j := nI_clamp (by omega)
    refine Z.aload_n (pc := 14) (i := 0) dX8_back_14 rfl rfl ?_
    refine Z.getR (pc := 15) dX8_back_15 zf_X8_19 rfl rfl ?_
    refine Z.iload_n (pc := 18) (i := 1) dX8_back_18 rfl rfl ?_
    refine Z.callVi (pc := 19) dX8_back_19 (c_X6_isHere (o := 3) (Or.inl rfl) hR j (by omega)) zm_X8_149 zv_X6_isHere rfl rfl rfl rfl (by decide) (by decide) (Nat.le_of_ble_eq_true rfl) ?_
    refine Z.if_eq_b (pc := 22) (tgt := 28) dX8_back_22 (by decide) (fun c22 => ?_) (fun c22 => ?_)
    · refine Z.aload_n (pc := 28) (i := 0) dX8_back_28 rfl rfl ?_
      refine Z.getR (pc := 29) dX8_back_29 zf_X8_19 rfl rfl ?_
      refine Z.dup (pc := 32) dX8_back_32 rfl ?_
      refine Z.getIv (pc := 33) dX8_back_33 zf_X8_129 rfl rfl hG.2.1 ?_
      refine Z.iconst (pc := 36) (v := (nI 1)) dX8_back_36 (by decide) ?_
      refine Z.iload_n (pc := 37) (i := 1) dX8_back_37 rfl rfl ?_
      refine Z.ishl (pc := 38) dX8_back_38 ?_
      refine Z.top (nb_shl (by omega)) ?_
      refine Z.ior (pc := 39) dX8_back_39 ?_
      refine Z.top (nb_or _ _) ?_
      refine Z.putI (pc := 40) dX8_back_40 zp_X8_129 rfl rfl rfl rfl ?_
      refine Z.aload_n (pc := 43) (i := 0) dX8_back_43 rfl rfl ?_
      refine Z.getR (pc := 44) dX8_back_44 zf_X8_19 rfl rfl ?_
      refine Z.getIv (pc := 47) dX8_back_47 zf_X8_129 rfl rfl (z_up_at _ _ _ _) ?_
      refine Z.callSi (pc := 50) dX8_back_50 (c_J6_bitCount_0f7a4 _ (Nat.lt_of_lt_of_le (or_lt shl (Nat.pow_lt_pow_right (by decide) hj)) (by omega))) zm_X8_135 zs_J6_bitCount_0f7a4 rfl rfl (by decide) (by decide) (Nat.le_of_ble_eq_true rfl) ?_
      refine Z.iret (pc := 53) (ty := .int) dX8_back_53 rfl rfl ?_
      exact kd (S' := ((len, pg), (n, k, s, f, hr ||| 2 ^ j, fd, ho), (sz, sg, so, se), kept, (ihr, ik, js, ifd, iho, (isz, isg, iso, ise)), np)) (by simp [a_back, q, ej, c22]) ⟨hP.mv rfl rfl, ⟨hG.1, rfl, hG.2.2⟩, hE.mv rfl rfl rfl rfl, hK.mv rfl, hI.mv rfl rfl rfl rfl rfl rfl rfl rfl, hX.mv hX.1 rfl rfl rfl rfl rfl rfl hX.2.2.2.2.1 hX.2.2.2.2.2.1 hX.2.2.2.2.2.2.1⟩ (by repeat (first | refine fr_up ?_ (by decide) | refine fr_row ?_ (by decide) | exact fr_rf))
    · refine Z.bipush (pc := 25) (v := (-103)) dX8_back_25 (by decide) ?_
      refine Z.iret (pc := 27) (ty := .int) dX8_back_27 rfl rfl ?_
      exact kd (S' := ((len, pg), (n, k, s, f, hr, fd, ho), (sz, sg, so, se), kept, (ihr, ik, js, ifd, iho, (isz, isg, iso, ise)), np)) (by simp [a_back, q, ej, c22]) hD fr_rf
  · have q : gB n g = false := c8
    refine Z.bipush (pc := 11) (v := (-101)) dX8_back_11 (by decide) ?_
    refine Z.iret (pc := 13) (ty := .int) dX8_back_13 rfl rfl ?_
    exact kd (S' := ((len, pg), (n, k, s, f, hr, fd, ho), (sz, sg, so, se), kept, (ihr, ik, js, ifd, iho, (isz, isg, iso, ise)), np)) (by simp [a_back, q]) hD fr_rf
set_option maxRecDepth 100000 in
set_option maxHeartbeats 400000 in
theorem c_X8_feed {h : hp} {len n hr fd ho sz ihr ifd iho isz np : Nat} {pg k s f sg so se ik js isg iso ise : zF} {kept : Bool} (hD : D h ((len, pg), (n, k, s, f, hr, fd, ho), (sz, sg, so, se), kept, (ihr, ik, js, ifd, iho, (isz, isg, iso, ise)), np)) (hS : OkS ((len, pg), (n, k, s, f, hr, fd, ho), (sz, sg, so, se), kept, (ihr, ik, js, ifd, iho, (isz, isg, iso, ise)), np)) (m : Int32)  : Cn yX8_feed cX8_feed 2 (some .int) 1 [.ref 0, .int m] h (KD h (.int (a_feed ((len, pg), (n, k, s, f, hr, fd, ho), (sz, sg, so, se), kept, (ihr, ik, js, ifd, iho, (isz, isg, iso, ise)), np) m).1) (a_feed ((len, pg), (n, k, s, f, hr, fd, ho), (sz, sg, so, se), kept, (ihr, ik, js, ifd, iho, (isz, isg, iso, ise)), np) m).2) := by
  obtain ⟨hP, hG, hE, hK, hI, hX⟩ := id hD
  obtain ⟨⟨sp1, sp2⟩, ⟨sk, shl, sfd, sho, zk, zs, zf⟩, sE, sI⟩ := id hS
  have hR := hG.Rm shl sk
  have hn8 := sk.1
  have hp8 := p8 hn8
  refine Cn.of (by decide) (Nat.le_of_ble_eq_true rfl) ?_
  refine Z.eqL (lv' := [(0, .ref 0), (1, .int m)]) rfl ?_
  refine Z.iload_n (pc := 0) (i := 1) dX8_feed_0 rfl rfl ?_
  refine Z.iconst (pc := 1) (v := (1)) dX8_feed_1 (by decide) ?_
  refine Z.icmp_lt (pc := 2) (tgt := 11) dX8_feed_2 (by decide) (fun c2 => ?_) (fun c2 => ?_)
  · have q : inR m 1 50 = false := decide_eq_false (fun w => lt_nle c2 w.1)
    refine Z.bipush (pc := 11) (v := (-102)) dX8_feed_11 (by decide) ?_
    refine Z.iret (pc := 13) (ty := .int) dX8_feed_13 rfl rfl ?_
    exact kd (S' := ((len, pg), (n, k, s, f, hr, fd, ho), (sz, sg, so, se), kept, (ihr, ik, js, ifd, iho, (isz, isg, iso, ise)), np)) (by simp [a_feed, q]) hD fr_rf
  · refine Z.iload_n (pc := 5) (i := 1) dX8_feed_5 rfl rfl ?_
    refine Z.bipush (pc := 6) (v := (50)) dX8_feed_6 (by decide) ?_
    refine Z.icmp_le (pc := 8) (tgt := 14) dX8_feed_8 (by decide) (fun c8 => ?_) (fun c8 => ?_)
    · have q : inR m 1 50 = true := decide_eq_true ⟨nlt c2, c8⟩
      obtain ⟨a, ha1, ha, rfl⟩ := inR_of1 (b := 50) (by decide) q
      have ea : (nI a).toNatClampNeg = a := nI_clamp (by omega)
      refine Z.aload_n (pc := 14) (i := 0) dX8_feed_14 rfl rfl ?_
      refine Z.callVi (pc := 15) dX8_feed_15 (c_X8_hasParty hG.1 hn8) zm_X8_140 zv_X8_hasParty rfl rfl rfl rfl (by decide) (by decide) (Nat.le_of_ble_eq_true rfl) ?_
      refine Z.if_ne_b (pc := 18) (tgt := 24) dX8_feed_18 (by decide) (fun c18 => ?_) (fun c18 => ?_)
      · have n0 : ¬ n = 0 := by have := of_decide_eq_true c18; omega
        refine Z.aload_n (pc := 24) (i := 0) dX8_feed_24 rfl rfl ?_
        refine Z.getR (pc := 25) dX8_feed_25 zf_X8_19 rfl rfl ?_
        refine Z.getIv (pc := 28) dX8_feed_28 zf_X8_159 rfl rfl hG.2.2.1 ?_
        refine Z.iload_n (pc := 31) (i := 1) dX8_feed_31 rfl rfl ?_
        refine Z.iadd (pc := 32) dX8_feed_32 ?_
        refine Z.top (nI_add _ _) ?_
        refine Z.bipush (pc := 33) (v := (nI 99)) dX8_feed_33 (by decide) ?_
        refine Z.icmp_le (pc := 35) (tgt := 41) dX8_feed_35 (by decide) (fun c35 => ?_) (fun c35 => ?_)
        · have q2 : ¬ 99 < fd + a := by have := (nI_leI (by omega) (by decide)).mp c35; omega
          refine Z.aload_n (pc := 41) (i := 0) dX8_feed_41 rfl rfl ?_
          refine Z.getR (pc := 42) dX8_feed_42 zf_X8_19 rfl rfl ?_
          refine Z.dup (pc := 45) dX8_feed_45 rfl ?_
          refine Z.getIv (pc := 46) dX8_feed_46 zf_X8_159 rfl rfl hG.2.2.1 ?_
          refine Z.iload_n (pc := 49) (i := 1) dX8_feed_49 rfl rfl ?_
          refine Z.iadd (pc := 50) dX8_feed_50 ?_
          refine Z.top (nI_add _ _) ?_
          refine Z.putI (pc := 51) dX8_feed_51 zp_X8_159 rfl rfl rfl rfl ?_
          refine Z.aload_n (pc := 54) (i := 0) dX8_feed_54 rfl rfl ?_
          refine Z.getR (pc := 55) dX8_feed_55 zf_X8_19 rfl rfl ?_
          refine Z.getIv (pc := 58) dX8_feed_58 zf_X8_159 rfl rfl (z_up_at _ _ _ _) ?_
          refine Z.iret (pc := 61) (ty := .int) dX8_feed_61 rfl rfl ?_
          exact kd (S' := ((len, pg), (n, k, s, f, hr, fd + a, ho), (sz, sg, so, se), kept, (ihr, ik, js, ifd, iho, (isz, isg, iso, ise)), np)) (by simp [a_feed, q, n0, ea, q2]) ⟨hP.mv rfl rfl, ⟨hG.1, hG.2.1, rfl, hG.2.2.2⟩, hE.mv rfl rfl rfl rfl, hK.mv rfl, hI.mv rfl rfl rfl rfl rfl rfl rfl rfl, hX.mv hX.1 rfl rfl rfl rfl rfl rfl hX.2.2.2.2.1 hX.2.2.2.2.2.1 hX.2.2.2.2.2.2.1⟩ (by repeat (first | refine fr_up ?_ (by decide) | refine fr_row ?_ (by decide) | exact fr_rf))
        · have q2 : 99 < fd + a := Nat.not_le.mp (fun w => c35 (nI_le w (by decide)))
          refine Z.bipush (pc := 38) (v := (-104)) dX8_feed_38 (by decide) ?_
          refine Z.iret (pc := 40) (ty := .int) dX8_feed_40 rfl rfl ?_
          exact kd (S' := ((len, pg), (n, k, s, f, hr, fd, ho), (sz, sg, so, se), kept, (ihr, ik, js, ifd, iho, (isz, isg, iso, ise)), np)) (by simp [a_feed, q, n0, ea, q2]) hD fr_rf
      · have n0 : n = 0 := by have := of_decide_eq_false c18; omega
        refine Z.bipush (pc := 21) (v := (-103)) dX8_feed_21 (by decide) ?_
        refine Z.iret (pc := 23) (ty := .int) dX8_feed_23 rfl rfl ?_
        exact kd (S' := ((len, pg), (n, k, s, f, hr, fd, ho), (sz, sg, so, se), kept, (ihr, ik, js, ifd, iho, (isz, isg, iso, ise)), np)) (by simp [a_feed, q, n0]) hD fr_rf
    · have q : inR m 1 50 = false := decide_eq_false (fun w => c8 w.2)
      refine Z.bipush (pc := 11) (v := (-102)) dX8_feed_11 (by decide) ?_
      refine Z.iret (pc := 13) (ty := .int) dX8_feed_13 rfl rfl ?_
      exact kd (S' := ((len, pg), (n, k, s, f, hr, fd, ho), (sz, sg, so, se), kept, (ihr, ik, js, ifd, iho, (isz, isg, iso, ise)), np)) (by simp [a_feed, q]) hD fr_rf
set_option maxRecDepth 100000 in
set_option maxHeartbeats 400000 in
theorem c_X8_turn {h : hp} {len n hr fd ho sz ihr ifd iho isz np : Nat} {pg k s f sg so se ik js isg iso ise : zF} {kept : Bool} (hD : D h ((len, pg), (n, k, s, f, hr, fd, ho), (sz, sg, so, se), kept, (ihr, ik, js, ifd, iho, (isz, isg, iso, ise)), np)) (hS : OkS ((len, pg), (n, k, s, f, hr, fd, ho), (sz, sg, so, se), kept, (ihr, ik, js, ifd, iho, (isz, isg, iso, ise)), np)) (g w y : Int32)  : Cn yX8_turn cX8_turn 5 (some .int) 1 [.ref 0, .int g, .int w, .int y] h (KD h (.int (a_turn ((len, pg), (n, k, s, f, hr, fd, ho), (sz, sg, so, se), kept, (ihr, ik, js, ifd, iho, (isz, isg, iso, ise)), np) g w y).1) (a_turn ((len, pg), (n, k, s, f, hr, fd, ho), (sz, sg, so, se), kept, (ihr, ik, js, ifd, iho, (isz, isg, iso, ise)), np) g w y).2) := by
  obtain ⟨hP, hG, hE, hK, hI, hX⟩ := id hD
  obtain ⟨⟨sp1, sp2⟩, ⟨sk, shl, sfd, sho, zk, zs, zf⟩, sE, sI⟩ := id hS
  have hR := hG.Rm shl sk
  have hn8 := sk.1
  have hp8 := p8 hn8
  refine Cn.of (by decide) (Nat.le_of_ble_eq_true rfl) ?_
  refine Z.eqL (lv' := [(0, .ref 0), (1, .int g), (2, .int w), (3, .int y)]) rfl ?_
  refine Z.aload_n (pc := 0) (i := 0) dX8_turn_0 rfl rfl ?_
  refine Z.getR (pc := 1) dX8_turn_1 zf_X8_19 rfl rfl ?_
  refine Z.iload_n (pc := 4) (i := 1) dX8_turn_4 rfl rfl ?_
  refine Z.callVi (pc := 5) dX8_turn_5 (c_X6_hasGuest (o := 3) (Or.inl rfl) hR g) zm_X8_101 zv_X6_hasGuest rfl rfl rfl rfl (by decide) (by decide) (Nat.le_of_ble_eq_true rfl) ?_
  refine Z.if_ne_b (pc := 8) (tgt := 14) dX8_turn_8 (by decide) (fun c8 => ?_) (fun c8 => ?_)
  · have q : gB n g = true := c8
    obtain ⟨j, hj, rfl⟩ := gB_of q hn8
    have ej : (nI j).toNatClampNeg = j := nI_clamp (by omega)
    refine Z.iload_n (pc := 14) (i := 2) dX8_turn_14 rfl rfl ?_
    refine Z.callSi (pc := 15) dX8_turn_15 (c_X3_isKind w) zm_X8_113 zs_X3_isKind rfl rfl (by decide) (by decide) (Nat.le_of_ble_eq_true rfl) ?_
    refine Z.if_eq_b (pc := 18) (tgt := 31) dX8_turn_18 (by decide) (fun c18 => ?_) (fun c18 => ?_)
    · have q2 : (inR w 0 4 && inR y 0 9) = false := by rw [c18]; rfl
      refine Z.bipush (pc := 31) (v := (-102)) dX8_turn_31 (by decide) ?_
      refine Z.iret (pc := 33) (ty := .int) dX8_turn_33 rfl rfl ?_
      exact kd (S' := ((len, pg), (n, k, s, f, hr, fd, ho), (sz, sg, so, se), kept, (ihr, ik, js, ifd, iho, (isz, isg, iso, ise)), np)) (by rw [a_turn, q, q2]; rfl) hD fr_rf
    · refine Z.iload_n (pc := 21) (i := 3) dX8_turn_21 rfl rfl ?_
      refine Z.if_lt (pc := 22) (tgt := 31) dX8_turn_22 (by decide) (fun c22 => ?_) (fun c22 => ?_)
      · have q2 : (inR w 0 4 && inR y 0 9) = false := by rw [show inR y 0 9 = false from decide_eq_false (fun v => lt_nle c22 v.1)]; simp
        refine Z.bipush (pc := 31) (v := (-102)) dX8_turn_31 (by decide) ?_
        refine Z.iret (pc := 33) (ty := .int) dX8_turn_33 rfl rfl ?_
        exact kd (S' := ((len, pg), (n, k, s, f, hr, fd, ho), (sz, sg, so, se), kept, (ihr, ik, js, ifd, iho, (isz, isg, iso, ise)), np)) (by rw [a_turn, q, q2]; rfl) hD fr_rf
      · refine Z.iload_n (pc := 25) (i := 3) dX8_turn_25 rfl rfl ?_
        refine Z.bipush (pc := 26) (v := (9)) dX8_turn_26 (by decide) ?_
        refine Z.icmp_le (pc := 28) (tgt := 34) dX8_turn_28 (by decide) (fun c28 => ?_) (fun c28 => ?_)
        · have q2 : (inR w 0 4 && inR y 0 9) = true := by rw [c18, show inR y 0 9 = true from decide_eq_true ⟨nlt c22, c28⟩]; rfl
          refine Z.aload_n (pc := 34) (i := 0) dX8_turn_34 rfl rfl ?_
          refine Z.getR (pc := 35) dX8_turn_35 zf_X8_19 rfl rfl ?_
          refine Z.getR (pc := 38) dX8_turn_38 zf_X8_118 rfl rfl ?_
          refine Z.iload_n (pc := 41) (i := 1) dX8_turn_41 rfl rfl ?_
          refine Z.iald (pc := 42) dX8_turn_42 rfl (by omega) (by decide) ?_
          refine Z.top (show _ = k j from congrFun hG.2.2.2.2.1 j) ?_
          refine Z.istore (pc := 43) (i := 4) dX8_turn_43 (by decide) rfl ?_
          refine Z.aload_n (pc := 45) (i := 0) dX8_turn_45 rfl rfl ?_
          refine Z.getR (pc := 46) dX8_turn_46 zf_X8_19 rfl rfl ?_
          refine Z.getR (pc := 49) dX8_turn_49 zf_X8_118 rfl rfl ?_
          refine Z.iload_n (pc := 52) (i := 1) dX8_turn_52 rfl rfl ?_
          refine Z.iload_n (pc := 53) (i := 2) dX8_turn_53 rfl rfl ?_
          refine Z.iast (pc := 54) dX8_turn_54 rfl (by omega) (by decide) ?_
          refine Z.aload_n (pc := 55) (i := 0) dX8_turn_55 rfl rfl ?_
          refine Z.getR (pc := 56) dX8_turn_56 zf_X8_19 rfl rfl ?_
          refine Z.getR (pc := 59) dX8_turn_59 zf_X8_156 rfl rfl ?_
          refine Z.iload_n (pc := 62) (i := 1) dX8_turn_62 rfl rfl ?_
          refine Z.iload_n (pc := 63) (i := 3) dX8_turn_63 rfl rfl ?_
          refine Z.iast (pc := 64) dX8_turn_64 rfl (by omega) (by decide) ?_
          refine Z.iload (pc := 65) (i := 4) dX8_turn_65 rfl ?_
          refine Z.iret (pc := 67) (ty := .int) dX8_turn_67 rfl rfl ?_
          exact kd (S' := ((len, pg), (n, upd k j w, upd s j y, f, hr, fd, ho), (sz, sg, so, se), kept, (ihr, ik, js, ifd, iho, (isz, isg, iso, ise)), np)) (by rw [a_turn, q, q2, ej]; rfl) ⟨hP.mv rfl rfl, ⟨hG.1, hG.2.1, hG.2.2.1, hG.2.2.2.1, by show upd (h.1 4) j w = _; rw [hG.2.2.2.2.1], by show upd (h.1 5) j y = _; rw [hG.2.2.2.2.2.1], hG.2.2.2.2.2.2⟩, hE.mv rfl rfl rfl rfl, hK.mv rfl, hI.mv rfl rfl rfl rfl rfl rfl rfl rfl, hX.mv hX.1 rfl rfl rfl rfl rfl rfl hX.2.2.2.2.1 hX.2.2.2.2.2.1 hX.2.2.2.2.2.2.1⟩ (by repeat (first | refine fr_up ?_ (by decide) | refine fr_row ?_ (by decide) | exact fr_rf))
        · have q2 : (inR w 0 4 && inR y 0 9) = false := by rw [show inR y 0 9 = false from decide_eq_false (fun v => c28 v.2)]; simp
          refine Z.bipush (pc := 31) (v := (-102)) dX8_turn_31 (by decide) ?_
          refine Z.iret (pc := 33) (ty := .int) dX8_turn_33 rfl rfl ?_
          exact kd (S' := ((len, pg), (n, k, s, f, hr, fd, ho), (sz, sg, so, se), kept, (ihr, ik, js, ifd, iho, (isz, isg, iso, ise)), np)) (by rw [a_turn, q, q2]; rfl) hD fr_rf
  · have q : gB n g = false := c8
    refine Z.bipush (pc := 11) (v := (-101)) dX8_turn_11 (by decide) ?_
    refine Z.iret (pc := 13) (ty := .int) dX8_turn_13 rfl rfl ?_
    exact kd (S' := ((len, pg), (n, k, s, f, hr, fd, ho), (sz, sg, so, se), kept, (ihr, ik, js, ifd, iho, (isz, isg, iso, ise)), np)) (by simp [a_turn, q]) hD fr_rf
set_option maxRecDepth 100000 in
set_option maxHeartbeats 400000 in
theorem c_X8_most {h : hp} {len n hr fd ho sz ihr ifd iho isz np : Nat} {pg k s f sg so se ik js isg iso ise : zF} {kept : Bool} (hD : D h ((len, pg), (n, k, s, f, hr, fd, ho), (sz, sg, so, se), kept, (ihr, ik, js, ifd, iho, (isz, isg, iso, ise)), np)) (hS : OkS ((len, pg), (n, k, s, f, hr, fd, ho), (sz, sg, so, se), kept, (ihr, ik, js, ifd, iho, (isz, isg, iso, ise)), np))  : Cn yX8_most cX8_most 1 (some .int) 4 [.ref 0] h (KD h (.int (a_most ((len, pg), (n, k, s, f, hr, fd, ho), (sz, sg, so, se), kept, (ihr, ik, js, ifd, iho, (isz, isg, iso, ise)), np)).1) (a_most ((len, pg), (n, k, s, f, hr, fd, ho), (sz, sg, so, se), kept, (ihr, ik, js, ifd, iho, (isz, isg, iso, ise)), np)).2) := by
  obtain ⟨hP, hG, hE, hK, hI, hX⟩ := id hD
  obtain ⟨⟨sp1, sp2⟩, ⟨sk, shl, sfd, sho, zk, zs, zf⟩, sE, sI⟩ := id hS
  have hR := hG.Rm shl sk
  have hn8 := sk.1
  have hp8 := p8 hn8
  refine Cn.of (by decide) (Nat.le_of_ble_eq_true rfl) ?_
  refine Z.eqL (lv' := [(0, .ref 0)]) rfl ?_
  refine Z.aload_n (pc := 0) (i := 0) dX8_most_0 rfl rfl ?_
  refine Z.callVi (pc := 1) dX8_most_1 (c_X8_hasParty hG.1 hn8) zm_X8_140 zv_X8_hasParty rfl rfl rfl rfl (by decide) (by decide) (Nat.le_of_ble_eq_true rfl) ?_
  refine Z.if_ne_b (pc := 4) (tgt := 10) dX8_most_4 (by decide) (fun c4 => ?_) (fun c4 => ?_)
  · have n0 : ¬ n = 0 := by have := of_decide_eq_true c4; omega
    refine Z.aload_n (pc := 10) (i := 0) dX8_most_10 rfl rfl ?_
    refine Z.getR (pc := 11) dX8_most_11 zf_X8_19 rfl rfl ?_
    refine Z.callVi (pc := 14) dX8_most_14 (c_X6_mostWhoRise (o := 3) (Or.inl rfl) hR) zm_X8_162 zv_X6_mostWhoRise rfl rfl rfl rfl (by decide) (by decide) (Nat.le_of_ble_eq_true rfl) ?_
    refine Z.iret (pc := 17) (ty := .int) dX8_most_17 rfl rfl ?_
    exact kd (S' := ((len, pg), (n, k, s, f, hr, fd, ho), (sz, sg, so, se), kept, (ihr, ik, js, ifd, iho, (isz, isg, iso, ise)), np)) (by simp [a_most, n0]) hD fr_rf
  · have n0 : n = 0 := by have := of_decide_eq_false c4; omega
    refine Z.bipush (pc := 7) (v := (-103)) dX8_most_7 (by decide) ?_
    refine Z.iret (pc := 9) (ty := .int) dX8_most_9 rfl rfl ?_
    exact kd (S' := ((len, pg), (n, k, s, f, hr, fd, ho), (sz, sg, so, se), kept, (ihr, ik, js, ifd, iho, (isz, isg, iso, ise)), np)) (by simp [a_most, n0]) hD fr_rf
set_option maxRecDepth 100000 in
set_option maxHeartbeats 400000 in
theorem c_X8_whoShouldBePale {h : hp} {n hr : Nat} {k s f : zF} (hR : Rm h 3 n hr k s f)  : Cn yX8_whoShouldBePale cX8_whoShouldBePale 1 (some .int) 3 [.ref 0] h (z_eq (some (.int (nI (hirN k s f n hr)))) h) := by
  refine Cn.of (by decide) (Nat.le_of_ble_eq_true rfl) ?_
  refine Z.eqL (lv' := [(0, .ref 0)]) rfl ?_
  refine Z.aload_n (pc := 0) (i := 0) dX8_whoShouldBePale_0 rfl rfl ?_
  refine Z.getR (pc := 1) dX8_whoShouldBePale_1 zf_X8_19 rfl rfl ?_
  refine Z.getIv (pc := 4) dX8_whoShouldBePale_4 zf_X8_129 rfl rfl hR.2.1 ?_
  refine Z.aload_n (pc := 7) (i := 0) dX8_whoShouldBePale_7 rfl rfl ?_
  refine Z.getR (pc := 8) dX8_whoShouldBePale_8 zf_X8_19 rfl rfl ?_
  refine Z.aload_n (pc := 11) (i := 0) dX8_whoShouldBePale_11 rfl rfl ?_
  refine Z.getR (pc := 12) dX8_whoShouldBePale_12 zf_X8_19 rfl rfl ?_
  refine Z.getIv (pc := 15) dX8_whoShouldBePale_15 zf_X8_129 rfl rfl hR.2.1 ?_
  refine Z.callVi (pc := 18) dX8_whoShouldBePale_18 (c_X6_whoCanGo (o := 3) (Or.inl rfl) hR hr hR.2.2.1) zm_X8_132 zv_X6_whoCanGo rfl rfl rfl rfl (by decide) (by decide) (Nat.le_of_ble_eq_true rfl) ?_
  refine Z.iconst (pc := 21) (v := (-1)) dX8_whoShouldBePale_21 (by decide) ?_
  refine Z.ixor (pc := 22) dX8_whoShouldBePale_22 ?_
  refine Z.iand (pc := 23) dX8_whoShouldBePale_23 ?_
  refine Z.top (nb_dif _ _) ?_
  refine Z.iret (pc := 24) (ty := .int) dX8_whoShouldBePale_24 rfl rfl ?_
  exact ⟨rfl, rfl⟩
set_option maxRecDepth 100000 in
set_option maxHeartbeats 400000 in
theorem c_X8_hire {h : hp} {len n hr fd ho sz ihr ifd iho isz np : Nat} {pg k s f sg so se ik js isg iso ise : zF} {kept : Bool} (hD : D h ((len, pg), (n, k, s, f, hr, fd, ho), (sz, sg, so, se), kept, (ihr, ik, js, ifd, iho, (isz, isg, iso, ise)), np)) (hS : OkS ((len, pg), (n, k, s, f, hr, fd, ho), (sz, sg, so, se), kept, (ihr, ik, js, ifd, iho, (isz, isg, iso, ise)), np)) (w : Int32)  : Cn yX8_hire cX8_hire 2 (some .int) 4 [.ref 0, .int w] h (KD h (.int (a_hire ((len, pg), (n, k, s, f, hr, fd, ho), (sz, sg, so, se), kept, (ihr, ik, js, ifd, iho, (isz, isg, iso, ise)), np) w).1) (a_hire ((len, pg), (n, k, s, f, hr, fd, ho), (sz, sg, so, se), kept, (ihr, ik, js, ifd, iho, (isz, isg, iso, ise)), np) w).2) := by
  obtain ⟨hP, hG, hE, hK, hI, hX⟩ := id hD
  obtain ⟨⟨sp1, sp2⟩, ⟨sk, shl, sfd, sho, zk, zs, zf⟩, sE, sI⟩ := id hS
  have hR := hG.Rm shl sk
  have hn8 := sk.1
  have hp8 := p8 hn8
  refine Cn.of (by decide) (Nat.le_of_ble_eq_true rfl) ?_
  refine Z.eqL (lv' := [(0, .ref 0), (1, .int w)]) rfl ?_
  refine Z.iload_n (pc := 0) (i := 1) dX8_hire_0 rfl rfl ?_
  refine Z.if_lt (pc := 1) (tgt := 9) dX8_hire_1 (by decide) (fun c1 => ?_) (fun c1 => ?_)
  · have q : inR w 0 1 = false := decide_eq_false (fun v => lt_nle c1 v.1)
    refine Z.bipush (pc := 9) (v := (-102)) dX8_hire_9 (by decide) ?_
    refine Z.iret (pc := 11) (ty := .int) dX8_hire_11 rfl rfl ?_
    exact kd (S' := ((len, pg), (n, k, s, f, hr, fd, ho), (sz, sg, so, se), kept, (ihr, ik, js, ifd, iho, (isz, isg, iso, ise)), np)) (by simp [a_hire, q]) hD fr_rf
  · refine Z.iload_n (pc := 4) (i := 1) dX8_hire_4 rfl rfl ?_
    refine Z.iconst (pc := 5) (v := (1)) dX8_hire_5 (by decide) ?_
    refine Z.icmp_le (pc := 6) (tgt := 12) dX8_hire_6 (by decide) (fun c6 => ?_) (fun c6 => ?_)
    · have q : inR w 0 1 = true := decide_eq_true ⟨nlt c1, c6⟩
      refine Z.aload_n (pc := 12) (i := 0) dX8_hire_12 rfl rfl ?_
      refine Z.callVi (pc := 13) dX8_hire_13 (c_X8_hasParty hG.1 hn8) zm_X8_140 zv_X8_hasParty rfl rfl rfl rfl (by decide) (by decide) (Nat.le_of_ble_eq_true rfl) ?_
      refine Z.if_ne_b (pc := 16) (tgt := 22) dX8_hire_16 (by decide) (fun c16 => ?_) (fun c16 => ?_)
      · have n0 : ¬ n = 0 := by have := of_decide_eq_true c16; omega
        refine Z.iload_n (pc := 22) (i := 1) dX8_hire_22 rfl rfl ?_
        refine Z.if_ne (pc := 23) (tgt := 36) dX8_hire_23 (by decide) (fun c23 => ?_) (fun c23 => ?_)
        · refine Z.aload_n (pc := 36) (i := 0) dX8_hire_36 rfl rfl ?_
          refine Z.callVi (pc := 37) dX8_hire_37 (c_X8_whoShouldBePale hR) zm_X8_169 zv_X8_whoShouldBePale rfl rfl rfl rfl (by decide) (by decide) (Nat.le_of_ble_eq_true rfl) ?_
          refine Z.iret (pc := 40) (ty := .int) dX8_hire_40 rfl rfl ?_
          refine kd (S' := ((len, pg), (n, k, s, f, hr, fd, ho), (sz, sg, so, se), kept, (ihr, ik, js, ifd, iho, (isz, isg, iso, ise)), np)) ?_ hD fr_rf
          first | (simp [a_hire, q, n0, hirN]; done) | (simp [a_hire, q, n0, hirN, c23]; done)
        · subst c23
          clear c1 c6
          refine Z.aload_n (pc := 26) (i := 0) dX8_hire_26 rfl rfl ?_
          refine Z.callVi (pc := 27) dX8_hire_27 (c_X8_whoShouldBePale hR) zm_X8_169 zv_X8_whoShouldBePale rfl rfl rfl rfl (by decide) (by decide) (Nat.le_of_ble_eq_true rfl) ?_
          refine Z.callSi (pc := 30) dX8_hire_30 (c_J6_bitCount_0f7a4 _ (Nat.lt_of_le_of_lt (dif_le _ _) (by omega))) zm_X8_135 zs_J6_bitCount_0f7a4 rfl rfl (by decide) (by decide) (Nat.le_of_ble_eq_true rfl) ?_
          refine Z.goto (pc := 33) (tgt := 40) dX8_hire_33 (by decide) ?_
          refine Z.iret (pc := 40) (ty := .int) dX8_hire_40 rfl rfl ?_
          refine kd (S' := ((len, pg), (n, k, s, f, hr, fd, ho), (sz, sg, so, se), kept, (ihr, ik, js, ifd, iho, (isz, isg, iso, ise)), np)) ?_ hD fr_rf
          first | (simp [a_hire, q, n0, hirN]; done) | (simp [a_hire, q, n0, hirN, c23]; done)
      · have n0 : n = 0 := by have := of_decide_eq_false c16; omega
        refine Z.bipush (pc := 19) (v := (-103)) dX8_hire_19 (by decide) ?_
        refine Z.iret (pc := 21) (ty := .int) dX8_hire_21 rfl rfl ?_
        exact kd (S' := ((len, pg), (n, k, s, f, hr, fd, ho), (sz, sg, so, se), kept, (ihr, ik, js, ifd, iho, (isz, isg, iso, ise)), np)) (by simp [a_hire, q, n0]) hD fr_rf
    · have q : inR w 0 1 = false := decide_eq_false (fun v => c6 v.2)
      refine Z.bipush (pc := 9) (v := (-102)) dX8_hire_9 (by decide) ?_
      refine Z.iret (pc := 11) (ty := .int) dX8_hire_11 rfl rfl ?_
      exact kd (S' := ((len, pg), (n, k, s, f, hr, fd, ho), (sz, sg, so, se), kept, (ihr, ik, js, ifd, iho, (isz, isg, iso, ise)), np)) (by simp [a_hire, q]) hD fr_rf
