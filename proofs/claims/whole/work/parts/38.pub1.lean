set_option maxRecDepth 100000 in
set_option maxHeartbeats 400000 in
theorem c_X9_letter {h : hp} {len n hr fd ho sz ihr ifd iho isz np : Nat} {pg k s f sg so se ik js isg iso ise : zF} {kept : Bool} (hD : MS h ((len, pg), (n, k, s, f, hr, fd, ho), (sz, sg, so, se), kept, (ihr, ik, js, ifd, iho, (isz, isg, iso, ise)), np)) (hS : OkS ((len, pg), (n, k, s, f, hr, fd, ho), (sz, sg, so, se), kept, (ihr, ik, js, ifd, iho, (isz, isg, iso, ise)), np)) (c : Int32)  : Cn yX9_letter cX9_letter 2 (some .int) 1 [.ref 30, .int c] h (KM h (.int (a_letter ((len, pg), (n, k, s, f, hr, fd, ho), (sz, sg, so, se), kept, (ihr, ik, js, ifd, iho, (isz, isg, iso, ise)), np) c).1) (a_letter ((len, pg), (n, k, s, f, hr, fd, ho), (sz, sg, so, se), kept, (ihr, ik, js, ifd, iho, (isz, isg, iso, ise)), np) c).2) := by
  obtain ⟨hP, hG, hE, hK, hI, hX⟩ := id hD
  obtain ⟨⟨sp1, sp2⟩, ⟨sk, shl, sfd, sho, zk, zs, zf⟩, sE, sI⟩ := id hS
  have hM := hG.Mm shl sk
  have hn8 := sk.1
  have hp8 := p8 hn8
  refine Cn.of (by decide) (Nat.le_of_ble_eq_true rfl) ?_
  refine Z.eqL (lv' := [(0, .ref 30), (1, .int c)]) rfl ?_
  refine Z.iload_n (pc := 0) (i := 1) dX9_letter_0 rfl rfl ?_
  refine Z.bipush (pc := 1) (v := (32)) dX9_letter_1 (by decide) ?_
  refine Z.bipush (pc := 3) (v := (126)) dX9_letter_3 (by decide) ?_
  refine Z.callSi (pc := 5) dX9_letter_5 (c_X9_within _ _ _) zm_X9_50 zs_X9_within rfl rfl (by decide) (by decide) (Nat.le_of_ble_eq_true rfl) ?_
  refine Z.if_ne_b (pc := 8) (tgt := 14) dX9_letter_8 (by decide) (fun c8 => ?_) (fun c8 => ?_)
  · have q : inR c 32 126 = true := c8
    refine Z.aload_n (pc := 14) (i := 0) dX9_letter_14 rfl rfl ?_
    refine Z.getIv (pc := 15) dX9_letter_15 zf_X9_54 rfl rfl hP.1 ?_
    refine Z.bipush (pc := 18) (v := (nI 36)) dX9_letter_18 (by decide) ?_
    refine Z.icmp_ne (pc := 20) (tgt := 26) dX9_letter_20 (by decide) (fun c20 => ?_) (fun c20 => ?_)
    · have q2 : ¬ len = 36 := fun z => c20 (congrArg nI z)
      have q3 : len < 36 := by omega
      obtain ⟨j, hj, rfl⟩ := inR_c q
      refine Z.aload_n (pc := 26) (i := 0) dX9_letter_26 rfl rfl ?_
      refine Z.getR (pc := 27) dX9_letter_27 zf_X9_28 rfl rfl ?_
      refine Z.aload_n (pc := 30) (i := 0) dX9_letter_30 rfl rfl ?_
      refine Z.getIv (pc := 31) dX9_letter_31 zf_X9_54 rfl rfl hP.1 ?_
      refine Z.iload_n (pc := 34) (i := 1) dX9_letter_34 rfl rfl ?_
      refine Z.i2b (pc := 35) dX9_letter_35 ?_
      refine Z.top (b8_c j hj) ?_
      refine Z.bast (pc := 36) dX9_letter_36 rfl (by omega) (by decide) ?_
      rw [b8_n j hj]
      refine Z.aload_n (pc := 37) (i := 0) dX9_letter_37 rfl rfl ?_
      refine Z.dup (pc := 38) dX9_letter_38 rfl ?_
      refine Z.getIv (pc := 39) dX9_letter_39 zf_X9_54 rfl rfl (show _ = nI len from hP.1) ?_
      refine Z.iconst (pc := 42) (v := (1)) dX9_letter_42 (by decide) ?_
      refine Z.iadd (pc := 43) dX9_letter_43 ?_
      refine Z.top (nI_1 len) ?_
      refine Z.putI (pc := 44) dX9_letter_44 zp_X9_54 rfl rfl rfl rfl ?_
      refine Z.aload_n (pc := 47) (i := 0) dX9_letter_47 rfl rfl ?_
      refine Z.getIv (pc := 48) dX9_letter_48 zf_X9_54 rfl rfl (z_up_at _ _ _ _) ?_
      refine Z.iret (pc := 51) (ty := .int) dX9_letter_51 rfl rfl ?_
      exact km (S' := ((len + 1, upd pg len (nI j)), (n, k, s, f, hr, fd, ho), (sz, sg, so, se), kept, (ihr, ik, js, ifd, iho, (isz, isg, iso, ise)), np)) (by simp [a_letter, q, q2]) ⟨⟨rfl, by show upd (h.1 37) len _ = _; rw [hP.2]⟩, hG.mv rfl rfl rfl rfl rfl rfl rfl, hE.mv rfl rfl rfl rfl, hK.mv rfl rfl rfl, hI.mv rfl rfl rfl rfl rfl rfl rfl rfl rfl, hX.mv hX.1 rfl rfl rfl rfl rfl⟩ (by repeat (first | refine f9_up ?_ (by decide) | refine f9_row ?_ (by decide) | exact f9_rf))
    · have q2 : len = 36 := (nI_eq (by omega) (by decide)).mp c20
      refine Z.bipush (pc := 23) (v := (-104)) dX9_letter_23 (by decide) ?_
      refine Z.iret (pc := 25) (ty := .int) dX9_letter_25 rfl rfl ?_
      exact km (S' := ((len, pg), (n, k, s, f, hr, fd, ho), (sz, sg, so, se), kept, (ihr, ik, js, ifd, iho, (isz, isg, iso, ise)), np)) (by simp [a_letter, q, q2]) hD f9_rf
  · have q : inR c 32 126 = false := c8
    refine Z.bipush (pc := 11) (v := (-102)) dX9_letter_11 (by decide) ?_
    refine Z.iret (pc := 13) (ty := .int) dX9_letter_13 rfl rfl ?_
    exact km (S' := ((len, pg), (n, k, s, f, hr, fd, ho), (sz, sg, so, se), kept, (ihr, ik, js, ifd, iho, (isz, isg, iso, ise)), np)) (by simp [a_letter, q]) hD f9_rf
set_option maxRecDepth 100000 in
set_option maxHeartbeats 400000 in
theorem c_X9_blank {h : hp} {len n hr fd ho sz ihr ifd iho isz np : Nat} {pg k s f sg so se ik js isg iso ise : zF} {kept : Bool} (hD : MS h ((len, pg), (n, k, s, f, hr, fd, ho), (sz, sg, so, se), kept, (ihr, ik, js, ifd, iho, (isz, isg, iso, ise)), np)) (hS : OkS ((len, pg), (n, k, s, f, hr, fd, ho), (sz, sg, so, se), kept, (ihr, ik, js, ifd, iho, (isz, isg, iso, ise)), np))  : Cn yX9_blank cX9_blank 2 (some .int) 0 [.ref 30] h (KM h (.int (a_blank ((len, pg), (n, k, s, f, hr, fd, ho), (sz, sg, so, se), kept, (ihr, ik, js, ifd, iho, (isz, isg, iso, ise)), np)).1) (a_blank ((len, pg), (n, k, s, f, hr, fd, ho), (sz, sg, so, se), kept, (ihr, ik, js, ifd, iho, (isz, isg, iso, ise)), np)).2) := by
  obtain ⟨hP, hG, hE, hK, hI, hX⟩ := id hD
  obtain ⟨⟨sp1, sp2⟩, ⟨sk, shl, sfd, sho, zk, zs, zf⟩, sE, sI⟩ := id hS
  have hM := hG.Mm shl sk
  have hn8 := sk.1
  have hp8 := p8 hn8
  refine Cn.of (by decide) (Nat.le_of_ble_eq_true rfl) ?_
  refine Z.eqL (lv' := [(0, .ref 30)]) rfl ?_
  refine Z.aload_n (pc := 0) (i := 0) dX9_blank_0 rfl rfl ?_
  refine Z.getIv (pc := 1) dX9_blank_1 zf_X9_54 rfl rfl hP.1 ?_
  refine Z.istore_n (pc := 4) (i := 1) dX9_blank_4 rfl (by decide) rfl ?_
  refine Z.aload_n (pc := 5) (i := 0) dX9_blank_5 rfl rfl ?_
  refine Z.iconst (pc := 6) (v := (0)) dX9_blank_6 (by decide) ?_
  refine Z.putI (pc := 7) dX9_blank_7 zp_X9_54 rfl rfl rfl rfl ?_
  refine Z.iload_n (pc := 10) (i := 1) dX9_blank_10 rfl rfl ?_
  refine Z.iret (pc := 11) (ty := .int) dX9_blank_11 rfl rfl ?_
  exact km (S' := ((0, pg), (n, k, s, f, hr, fd, ho), (sz, sg, so, se), kept, (ihr, ik, js, ifd, iho, (isz, isg, iso, ise)), np)) (rfl) ⟨⟨rfl, hP.2⟩, hG.mv rfl rfl rfl rfl rfl rfl rfl, hE.mv rfl rfl rfl rfl, hK.mv rfl rfl rfl, hI.mv rfl rfl rfl rfl rfl rfl rfl rfl rfl, hX.mv hX.1 rfl rfl rfl rfl rfl⟩ (by repeat (first | refine f9_up ?_ (by decide) | refine f9_row ?_ (by decide) | exact f9_rf))
set_option maxRecDepth 100000 in
set_option maxHeartbeats 400000 in
theorem c_X9_fault {h : hp} {len n hr fd ho sz ihr ifd iho isz np : Nat} {pg k s f sg so se ik js isg iso ise : zF} {kept : Bool} (hD : MS h ((len, pg), (n, k, s, f, hr, fd, ho), (sz, sg, so, se), kept, (ihr, ik, js, ifd, iho, (isz, isg, iso, ise)), np)) (hS : OkS ((len, pg), (n, k, s, f, hr, fd, ho), (sz, sg, so, se), kept, (ihr, ik, js, ifd, iho, (isz, isg, iso, ise)), np))  : Cn yX9_fault cX9_fault 1 (some .int) 4 [.ref 30] h (KM h (.int (a_fault ((len, pg), (n, k, s, f, hr, fd, ho), (sz, sg, so, se), kept, (ihr, ik, js, ifd, iho, (isz, isg, iso, ise)), np)).1) (a_fault ((len, pg), (n, k, s, f, hr, fd, ho), (sz, sg, so, se), kept, (ihr, ik, js, ifd, iho, (isz, isg, iso, ise)), np)).2) := by
  obtain ⟨hP, hG, hE, hK, hI, hX⟩ := id hD
  obtain ⟨⟨sp1, sp2⟩, ⟨sk, shl, sfd, sho, zk, zs, zf⟩, sE, sI⟩ := id hS
  have hM := hG.Mm shl sk
  have hn8 := sk.1
  have hp8 := p8 hn8
  refine Cn.of (by decide) (Nat.le_of_ble_eq_true rfl) ?_
  refine Z.eqL (lv' := [(0, .ref 30)]) rfl ?_
  refine Z.aload_n (pc := 0) (i := 0) dX9_fault_0 rfl rfl ?_
  refine Z.callV (pc := 1) dX9_fault_1 (c_X9_read ⟨hP.1, hP.2, sp1, sp2⟩) zm_X9_79 zv_X9_read rfl rfl rfl rfl (by decide) (by decide) (Nat.le_of_ble_eq_true rfl) (fun r1 h1 k1 => ?_)
  obtain ⟨e, g, rfl, hg⟩ := k1
  subst e
  refine Z.iret (pc := 4) (ty := .int) dX9_fault_4 rfl rfl ?_
  exact km (S' := ((len, pg), (n, k, s, f, hr, fd, ho), (sz, sg, so, se), kept, (ihr, ik, js, ifd, iho, (isz, isg, iso, ise)), np)) (rfl) ⟨hP.mv rfl rfl, hG.mv rfl rfl rfl rfl rfl rfl rfl, hE.mv rfl rfl rfl rfl, hK.mv rfl rfl rfl, hI.mv rfl rfl rfl rfl rfl rfl rfl rfl rfl, hX.mv hX.1 rfl rfl rfl rfl rfl⟩ (f9_up (f9_up f9_rf (by decide)) (by decide))
set_option maxRecDepth 100000 in
set_option maxHeartbeats 400000 in
theorem c_X9_as {h : hp} {len n hr fd ho sz ihr ifd iho isz np : Nat} {pg k s f sg so se ik js isg iso ise : zF} {kept : Bool} (hD : MS h ((len, pg), (n, k, s, f, hr, fd, ho), (sz, sg, so, se), kept, (ihr, ik, js, ifd, iho, (isz, isg, iso, ise)), np)) (hS : OkS ((len, pg), (n, k, s, f, hr, fd, ho), (sz, sg, so, se), kept, (ihr, ik, js, ifd, iho, (isz, isg, iso, ise)), np)) (g w : Int32)  : Cn yX9_as cX9_as 4 (some .int) 2 [.ref 30, .int g, .int w] h (KM h (.int (a_as ((len, pg), (n, k, s, f, hr, fd, ho), (sz, sg, so, se), kept, (ihr, ik, js, ifd, iho, (isz, isg, iso, ise)), np) g w).1) (a_as ((len, pg), (n, k, s, f, hr, fd, ho), (sz, sg, so, se), kept, (ihr, ik, js, ifd, iho, (isz, isg, iso, ise)), np) g w).2) := by
  obtain ⟨hP, hG, hE, hK, hI, hX⟩ := id hD
  obtain ⟨⟨sp1, sp2⟩, ⟨sk, shl, sfd, sho, zk, zs, zf⟩, sE, sI⟩ := id hS
  have hM := hG.Mm shl sk
  have hn8 := sk.1
  have hp8 := p8 hn8
  refine Cn.of (by decide) (Nat.le_of_ble_eq_true rfl) ?_
  refine Z.eqL (lv' := [(0, .ref 30), (1, .int g), (2, .int w)]) rfl ?_
  refine Z.aload_n (pc := 0) (i := 0) dX9_as_0 rfl rfl ?_
  refine Z.iload_n (pc := 1) (i := 1) dX9_as_1 rfl rfl ?_
  refine Z.callVi (pc := 2) dX9_as_2 (c_X9_isGuest hM g) zm_X9_144 zv_X9_isGuest rfl rfl rfl rfl (by decide) (by decide) (Nat.le_of_ble_eq_true rfl) ?_
  refine Z.if_ne_b (pc := 5) (tgt := 11) dX9_as_5 (by decide) (fun c5 => ?_) (fun c5 => ?_)
  · have q : gB n g = true := c5
    obtain ⟨j, hj, rfl⟩ := gB_of q hn8
    have ej : (nI j).toNatClampNeg = j := nI_clamp (by omega)
    refine Z.iload_n (pc := 11) (i := 2) dX9_as_11 rfl rfl ?_
    refine Z.iconst (pc := 12) (v := (0)) dX9_as_12 (by decide) ?_
    refine Z.iconst (pc := 13) (v := (4)) dX9_as_13 (by decide) ?_
    refine Z.callSi (pc := 14) dX9_as_14 (c_X9_within _ _ _) zm_X9_50 zs_X9_within rfl rfl (by decide) (by decide) (Nat.le_of_ble_eq_true rfl) ?_
    refine Z.if_ne_b (pc := 17) (tgt := 23) dX9_as_17 (by decide) (fun c17 => ?_) (fun c17 => ?_)
    · refine Z.aload_n (pc := 23) (i := 0) dX9_as_23 rfl rfl ?_
      refine Z.getR (pc := 24) dX9_as_24 zf_X9_7 rfl rfl ?_
      refine Z.iload_n (pc := 27) (i := 1) dX9_as_27 rfl rfl ?_
      refine Z.iald (pc := 28) dX9_as_28 rfl (by omega) (by decide) ?_
      refine Z.top (show _ = k j from congrFun hG.2.2.2.2.1 j) ?_
      refine Z.istore_n (pc := 29) (i := 3) dX9_as_29 rfl (by decide) rfl ?_
      refine Z.iload_n (pc := 30) (i := 2) dX9_as_30 rfl rfl ?_
      refine Z.if_eq (pc := 31) (tgt := 49) dX9_as_31 (by decide) (fun c31 => ?_) (fun c31 => ?_)
      · have e : suchB (k j) w = true := decide_eq_true (Or.inl c31)
        refine Z.iload_n (pc := 49) (i := 1) dX9_as_49 rfl rfl ?_
        refine Z.goto (pc := 50) (tgt := 54) dX9_as_50 (by decide) ?_
        refine Z.iret (pc := 54) (ty := .int) dX9_as_54 rfl rfl ?_
        exact km (S' := ((len, pg), (n, k, s, f, hr, fd, ho), (sz, sg, so, se), kept, (ihr, ik, js, ifd, iho, (isz, isg, iso, ise)), np)) (by simp [a_as, q, c17, ej, e]) hD f9_rf
      · refine Z.iload_n (pc := 34) (i := 3) dX9_as_34 rfl rfl ?_
        refine Z.iload_n (pc := 35) (i := 2) dX9_as_35 rfl rfl ?_
        refine Z.icmp_eq (pc := 36) (tgt := 49) dX9_as_36 (by decide) (fun c36 => ?_) (fun c36 => ?_)
        · have e : suchB (k j) w = true := decide_eq_true (Or.inr (Or.inl c36.symm))
          refine Z.iload_n (pc := 49) (i := 1) dX9_as_49 rfl rfl ?_
          refine Z.goto (pc := 50) (tgt := 54) dX9_as_50 (by decide) ?_
          refine Z.iret (pc := 54) (ty := .int) dX9_as_54 rfl rfl ?_
          exact km (S' := ((len, pg), (n, k, s, f, hr, fd, ho), (sz, sg, so, se), kept, (ihr, ik, js, ifd, iho, (isz, isg, iso, ise)), np)) (by simp [a_as, q, c17, ej, e]) hD f9_rf
        · refine Z.iload_n (pc := 39) (i := 2) dX9_as_39 rfl rfl ?_
          refine Z.iconst (pc := 40) (v := (3)) dX9_as_40 (by decide) ?_
          refine Z.icmp_ne (pc := 41) (tgt := 53) dX9_as_41 (by decide) (fun c41 => ?_) (fun c41 => ?_)
          · have e : suchB (k j) w = false := decide_eq_false (fun z => z.elim c31 (fun z => z.elim (fun z => c36 z.symm) (fun z => c41 z.1)))
            refine Z.iconst (pc := 53) (v := (-1)) dX9_as_53 (by decide) ?_
            refine Z.iret (pc := 54) (ty := .int) dX9_as_54 rfl rfl ?_
            exact km (S' := ((len, pg), (n, k, s, f, hr, fd, ho), (sz, sg, so, se), kept, (ihr, ik, js, ifd, iho, (isz, isg, iso, ise)), np)) (by simp [a_as, q, c17, ej, e]) hD f9_rf
          · refine Z.iload_n (pc := 44) (i := 3) dX9_as_44 rfl rfl ?_
            refine Z.iconst (pc := 45) (v := (4)) dX9_as_45 (by decide) ?_
            refine Z.icmp_ne (pc := 46) (tgt := 53) dX9_as_46 (by decide) (fun c46 => ?_) (fun c46 => ?_)
            · have e : suchB (k j) w = false := decide_eq_false (fun z => z.elim c31 (fun z => z.elim (fun z => c36 z.symm) (fun z => c46 z.2)))
              refine Z.iconst (pc := 53) (v := (-1)) dX9_as_53 (by decide) ?_
              refine Z.iret (pc := 54) (ty := .int) dX9_as_54 rfl rfl ?_
              exact km (S' := ((len, pg), (n, k, s, f, hr, fd, ho), (sz, sg, so, se), kept, (ihr, ik, js, ifd, iho, (isz, isg, iso, ise)), np)) (by simp [a_as, q, c17, ej, e]) hD f9_rf
            · have e : suchB (k j) w = true := decide_eq_true (Or.inr (Or.inr ⟨c41, c46⟩))
              refine Z.iload_n (pc := 49) (i := 1) dX9_as_49 rfl rfl ?_
              refine Z.goto (pc := 50) (tgt := 54) dX9_as_50 (by decide) ?_
              refine Z.iret (pc := 54) (ty := .int) dX9_as_54 rfl rfl ?_
              exact km (S' := ((len, pg), (n, k, s, f, hr, fd, ho), (sz, sg, so, se), kept, (ihr, ik, js, ifd, iho, (isz, isg, iso, ise)), np)) (by simp [a_as, q, c17, ej, e]) hD f9_rf
    · refine Z.bipush (pc := 20) (v := (-102)) dX9_as_20 (by decide) ?_
      refine Z.iret (pc := 22) (ty := .int) dX9_as_22 rfl rfl ?_
      exact km (S' := ((len, pg), (n, k, s, f, hr, fd, ho), (sz, sg, so, se), kept, (ihr, ik, js, ifd, iho, (isz, isg, iso, ise)), np)) (by simp [a_as, q, c17]) hD f9_rf
  · have q : gB n g = false := c5
    refine Z.bipush (pc := 8) (v := (-101)) dX9_as_8 (by decide) ?_
    refine Z.iret (pc := 10) (ty := .int) dX9_as_10 rfl rfl ?_
    exact km (S' := ((len, pg), (n, k, s, f, hr, fd, ho), (sz, sg, so, se), kept, (ihr, ik, js, ifd, iho, (isz, isg, iso, ise)), np)) (by simp [a_as, q]) hD f9_rf
set_option maxRecDepth 100000 in
set_option maxHeartbeats 400000 in
theorem c_X9_rise {h : hp} {len n hr fd ho sz ihr ifd iho isz np : Nat} {pg k s f sg so se ik js isg iso ise : zF} {kept : Bool} (hD : MS h ((len, pg), (n, k, s, f, hr, fd, ho), (sz, sg, so, se), kept, (ihr, ik, js, ifd, iho, (isz, isg, iso, ise)), np)) (hS : OkS ((len, pg), (n, k, s, f, hr, fd, ho), (sz, sg, so, se), kept, (ihr, ik, js, ifd, iho, (isz, isg, iso, ise)), np)) (x : Int32)  : Cn yX9_rise cX9_rise 2 (some .int) 5 [.ref 30, .int x] h (KM h (.int (a_rise ((len, pg), (n, k, s, f, hr, fd, ho), (sz, sg, so, se), kept, (ihr, ik, js, ifd, iho, (isz, isg, iso, ise)), np) x).1) (a_rise ((len, pg), (n, k, s, f, hr, fd, ho), (sz, sg, so, se), kept, (ihr, ik, js, ifd, iho, (isz, isg, iso, ise)), np) x).2) := by
  obtain ⟨hP, hG, hE, hK, hI, hX⟩ := id hD
  obtain ⟨⟨sp1, sp2⟩, ⟨sk, shl, sfd, sho, zk, zs, zf⟩, sE, sI⟩ := id hS
  have hM := hG.Mm shl sk
  have hn8 := sk.1
  have hp8 := p8 hn8
  refine Cn.of (by decide) (Nat.le_of_ble_eq_true rfl) ?_
  refine Z.eqL (lv' := [(0, .ref 30), (1, .int x)]) rfl ?_
  refine Z.iload_n (pc := 0) (i := 1) dX9_rise_0 rfl rfl ?_
  refine Z.if_le (pc := 1) (tgt := 12) dX9_rise_1 (by decide) (fun c1 => ?_) (fun c1 => ?_)
  · have q : riseB n x = false := decide_eq_false (fun z => le0 c1 z.1)
    refine Z.bipush (pc := 12) (v := (-101)) dX9_rise_12 (by decide) ?_
    refine Z.iret (pc := 14) (ty := .int) dX9_rise_14 rfl rfl ?_
    exact km (S' := ((len, pg), (n, k, s, f, hr, fd, ho), (sz, sg, so, se), kept, (ihr, ik, js, ifd, iho, (isz, isg, iso, ise)), np)) (by simp [a_rise, q]) hD f9_rf
  · refine Z.iload_n (pc := 4) (i := 1) dX9_rise_4 rfl rfl ?_
    refine Z.aload_n (pc := 5) (i := 0) dX9_rise_5 rfl rfl ?_
    refine Z.callVi (pc := 6) dX9_rise_6 (c_X9_all hM) zm_X9_111 zv_X9_all rfl rfl rfl rfl (by decide) (by decide) (Nat.le_of_ble_eq_true rfl) ?_
    refine Z.icmp_le (pc := 9) (tgt := 15) dX9_rise_9 (by decide) (fun c9 => ?_) (fun c9 => ?_)
    · have q : riseB n x = true := decide_eq_true ⟨nle0 c1, (le_pw hn8).mp c9⟩
      obtain ⟨j, hj0, hj, rfl⟩ := riseB_of hn8 q
      have ej : (nI j).toNatClampNeg = j := nI_clamp (by omega)
      refine Z.iload_n (pc := 15) (i := 1) dX9_rise_15 rfl rfl ?_
      refine Z.aload_n (pc := 16) (i := 0) dX9_rise_16 rfl rfl ?_
      refine Z.getIv (pc := 17) dX9_rise_17 zf_X9_89 rfl rfl hG.2.1 ?_
      refine Z.iconst (pc := 20) (v := (-1)) dX9_rise_20 (by decide) ?_
      refine Z.ixor (pc := 21) dX9_rise_21 ?_
      refine Z.iand (pc := 22) dX9_rise_22 ?_
      refine Z.top (nb_dif _ _) ?_
      refine Z.if_ne (pc := 23) (tgt := 34) dX9_rise_23 (by decide) (fun c23 => ?_) (fun c23 => ?_)
      · have q2 : ¬ dif j hr = 0 := fun w => c23 (by rw [w]; rfl)
        have q3 : riB k s f n hr j = false := by simp [riB, chB, q2]
        refine Z.bipush (pc := 34) (v := (-103)) dX9_rise_34 (by decide) ?_
        refine Z.iret (pc := 36) (ty := .int) dX9_rise_36 rfl rfl ?_
        exact km (S' := ((len, pg), (n, k, s, f, hr, fd, ho), (sz, sg, so, se), kept, (ihr, ik, js, ifd, iho, (isz, isg, iso, ise)), np)) (by simp [a_rise, q, q3, ej]) hD f9_rf
      · have q2 : dif j hr = 0 := (nI_0' (Nat.lt_of_le_of_lt (dif_le _ _) (by omega))).mp c23
        refine Z.aload_n (pc := 26) (i := 0) dX9_rise_26 rfl rfl ?_
        refine Z.iload_n (pc := 27) (i := 1) dX9_rise_27 rfl rfl ?_
        refine Z.callVi (pc := 28) dX9_rise_28 (c_X9_canRise hM j hj) zm_X9_151 zv_X9_canRise rfl rfl rfl rfl (by decide) (by decide) (Nat.le_of_ble_eq_true rfl) ?_
        refine Z.if_ne_b (pc := 31) (tgt := 37) dX9_rise_31 (by decide) (fun c31 => ?_) (fun c31 => ?_)
        · have q3 : riB k s f n hr j = true := by unfold riB chB; rw [decide_eq_true q2, c31]; rfl
          refine Z.aload_n (pc := 37) (i := 0) dX9_rise_37 rfl rfl ?_
          refine Z.dup (pc := 38) dX9_rise_38 rfl ?_
          refine Z.getIv (pc := 39) dX9_rise_39 zf_X9_89 rfl rfl hG.2.1 ?_
          refine Z.iload_n (pc := 42) (i := 1) dX9_rise_42 rfl rfl ?_
          refine Z.iconst (pc := 43) (v := (-1)) dX9_rise_43 (by decide) ?_
          refine Z.ixor (pc := 44) dX9_rise_44 ?_
          refine Z.iand (pc := 45) dX9_rise_45 ?_
          refine Z.top (nb_dif _ _) ?_
          refine Z.putI (pc := 46) dX9_rise_46 zp_X9_89 rfl rfl rfl rfl ?_
          refine Z.iload_n (pc := 49) (i := 1) dX9_rise_49 rfl rfl ?_
          refine Z.callSi (pc := 50) dX9_rise_50 (c_X9_size j (by omega)) zm_X9_154 zs_X9_size rfl rfl (by decide) (by decide) (Nat.le_of_ble_eq_true rfl) ?_
          refine Z.iret (pc := 53) (ty := .int) dX9_rise_53 rfl rfl ?_
          exact km (S' := ((len, pg), (n, k, s, f, dif hr j, fd, ho), (sz, sg, so, se), kept, (ihr, ik, js, ifd, iho, (isz, isg, iso, ise)), np)) (by simp [a_rise, q, q3, ej]) ⟨hP.mv rfl rfl, ⟨hG.1, rfl, hG.2.2⟩, hE.mv rfl rfl rfl rfl, hK.mv rfl rfl rfl, hI.mv rfl rfl rfl rfl rfl rfl rfl rfl rfl, hX.mv hX.1 rfl rfl rfl rfl rfl⟩ (by repeat (first | refine f9_up ?_ (by decide) | refine f9_row ?_ (by decide) | exact f9_rf))
        · have q3 : riB k s f n hr j = false := by unfold riB; rw [c31]; simp
          refine Z.bipush (pc := 34) (v := (-103)) dX9_rise_34 (by decide) ?_
          refine Z.iret (pc := 36) (ty := .int) dX9_rise_36 rfl rfl ?_
          exact km (S' := ((len, pg), (n, k, s, f, hr, fd, ho), (sz, sg, so, se), kept, (ihr, ik, js, ifd, iho, (isz, isg, iso, ise)), np)) (by simp [a_rise, q, q3, ej]) hD f9_rf
    · have q : riseB n x = false := decide_eq_false (fun z => c9 ((le_pw hn8).mpr z.2))
      refine Z.bipush (pc := 12) (v := (-101)) dX9_rise_12 (by decide) ?_
      refine Z.iret (pc := 14) (ty := .int) dX9_rise_14 rfl rfl ?_
      exact km (S' := ((len, pg), (n, k, s, f, hr, fd, ho), (sz, sg, so, se), kept, (ihr, ik, js, ifd, iho, (isz, isg, iso, ise)), np)) (by simp [a_rise, q]) hD f9_rf
set_option maxRecDepth 100000 in
set_option maxHeartbeats 400000 in
theorem c_X9_hour {h : hp} {len n hr fd ho sz ihr ifd iho isz np : Nat} {pg k s f sg so se ik js isg iso ise : zF} {kept : Bool} (hD : MS h ((len, pg), (n, k, s, f, hr, fd, ho), (sz, sg, so, se), kept, (ihr, ik, js, ifd, iho, (isz, isg, iso, ise)), np)) (hS : OkS ((len, pg), (n, k, s, f, hr, fd, ho), (sz, sg, so, se), kept, (ihr, ik, js, ifd, iho, (isz, isg, iso, ise)), np))  : Cn yX9_hour cX9_hour 1 (some .int) 6 [.ref 30] h (KM h (.int (a_hour ((len, pg), (n, k, s, f, hr, fd, ho), (sz, sg, so, se), kept, (ihr, ik, js, ifd, iho, (isz, isg, iso, ise)), np)).1) (a_hour ((len, pg), (n, k, s, f, hr, fd, ho), (sz, sg, so, se), kept, (ihr, ik, js, ifd, iho, (isz, isg, iso, ise)), np)).2) := by
  obtain ⟨hP, hG, hE, hK, hI, hX⟩ := id hD
  obtain ⟨⟨sp1, sp2⟩, ⟨sk, shl, sfd, sho, zk, zs, zf⟩, sE, sI⟩ := id hS
  have hM := hG.Mm shl sk
  have hn8 := sk.1
  have hp8 := p8 hn8
  refine Cn.of (by decide) (Nat.le_of_ble_eq_true rfl) ?_
  refine Z.eqL (lv' := [(0, .ref 30)]) rfl ?_
  refine Z.aload_n (pc := 0) (i := 0) dX9_hour_0 rfl rfl ?_
  refine Z.getIv (pc := 1) dX9_hour_1 zf_X9_83 rfl rfl hG.1 ?_
  refine Z.if_ne (pc := 4) (tgt := 10) dX9_hour_4 (by decide) (fun c4 => ?_) (fun c4 => ?_)
  · have n0 : ¬ n = 0 := fun z => c4 (by rw [z]; rfl)
    refine Z.aload_n (pc := 10) (i := 0) dX9_hour_10 rfl rfl ?_
    refine Z.getIv (pc := 11) dX9_hour_11 zf_X9_92 rfl rfl hG.2.2.2.1 ?_
    refine Z.sipush (pc := 14) (v := (nI 999)) dX9_hour_14 (by decide) ?_
    refine Z.icmp_ne (pc := 17) (tgt := 23) dX9_hour_17 (by decide) (fun c17 => ?_) (fun c17 => ?_)
    · have q : ¬ ho = 999 := fun w => c17 (congrArg nI w)
      refine Z.aload_n (pc := 23) (i := 0) dX9_hour_23 rfl rfl ?_
      refine Z.dup (pc := 24) dX9_hour_24 rfl ?_
      refine Z.getIv (pc := 25) dX9_hour_25 zf_X9_92 rfl rfl hG.2.2.2.1 ?_
      refine Z.iconst (pc := 28) (v := (1)) dX9_hour_28 (by decide) ?_
      refine Z.iadd (pc := 29) dX9_hour_29 ?_
      refine Z.top (nI_1 ho) ?_
      refine Z.putI (pc := 30) dX9_hour_30 zp_X9_92 rfl rfl rfl rfl ?_
      refine Z.aload_n (pc := 33) (i := 0) dX9_hour_33 rfl rfl ?_
      refine Z.callVi (pc := 34) dX9_hour_34 (c_X9_goHour (h := z_up h 30 3 (nI (ho + 1))) (Mm_up hM (by decide) (by decide)) (by exact hG.2.2.1) sfd) zm_X9_164 zv_X9_goHour rfl rfl rfl rfl (by decide) (by decide) (Nat.le_of_ble_eq_true rfl) ?_
      refine Z.iret (pc := 37) (ty := .int) dX9_hour_37 rfl rfl ?_
      exact km (S' := ((len, pg), (n, k, hsS s hr fd, f, hsH k s f n hr fd, fd - pop hr, ho + 1), (sz, sg, so, se), kept, (ihr, ik, js, ifd, iho, (isz, isg, iso, ise)), np)) (by simp [a_hour, n0, q]) ⟨hP.mv rfl rfl, ⟨hG.1, rfl, rfl, rfl, hG.2.2.2.2.1, rfl, hG.2.2.2.2.2.2⟩, hE.mv rfl rfl rfl rfl, hK.mv rfl rfl rfl, hI.mv rfl rfl rfl rfl rfl rfl rfl rfl rfl, hX.mv hX.1 rfl rfl rfl rfl rfl⟩ (f9_up (f9_row (f9_up (f9_up f9_rf (by decide)) (by decide)) (by decide)) (by decide))
    · have q : ho = 999 := (nI_eq (by omega) (by decide)).mp c17
      refine Z.bipush (pc := 20) (v := (-104)) dX9_hour_20 (by decide) ?_
      refine Z.iret (pc := 22) (ty := .int) dX9_hour_22 rfl rfl ?_
      exact km (S' := ((len, pg), (n, k, s, f, hr, fd, ho), (sz, sg, so, se), kept, (ihr, ik, js, ifd, iho, (isz, isg, iso, ise)), np)) (by simp [a_hour, n0, q]) hD f9_rf
  · have n0 : n = 0 := (nI_0' (by omega)).mp c4
    refine Z.bipush (pc := 7) (v := (-103)) dX9_hour_7 (by decide) ?_
    refine Z.iret (pc := 9) (ty := .int) dX9_hour_9 rfl rfl ?_
    exact km (S' := ((len, pg), (n, k, s, f, hr, fd, ho), (sz, sg, so, se), kept, (ihr, ik, js, ifd, iho, (isz, isg, iso, ise)), np)) (by simp [a_hour, n0]) hD f9_rf
set_option maxRecDepth 100000 in
set_option maxHeartbeats 400000 in
theorem c_X9_hint {h : hp} {len n hr fd ho sz ihr ifd iho isz np : Nat} {pg k s f sg so se ik js isg iso ise : zF} {kept : Bool} (hD : MS h ((len, pg), (n, k, s, f, hr, fd, ho), (sz, sg, so, se), kept, (ihr, ik, js, ifd, iho, (isz, isg, iso, ise)), np)) (hS : OkS ((len, pg), (n, k, s, f, hr, fd, ho), (sz, sg, so, se), kept, (ihr, ik, js, ifd, iho, (isz, isg, iso, ise)), np)) (g : Int32)  : Cn yX9_hint cX9_hint 2 (some .int) 2 [.ref 30, .int g] h (KM h (.int (a_hint ((len, pg), (n, k, s, f, hr, fd, ho), (sz, sg, so, se), kept, (ihr, ik, js, ifd, iho, (isz, isg, iso, ise)), np) g).1) (a_hint ((len, pg), (n, k, s, f, hr, fd, ho), (sz, sg, so, se), kept, (ihr, ik, js, ifd, iho, (isz, isg, iso, ise)), np) g).2) := by
  obtain ⟨hP, hG, hE, hK, hI, hX⟩ := id hD
  obtain ⟨⟨sp1, sp2⟩, ⟨sk, shl, sfd, sho, zk, zs, zf⟩, sE, sI⟩ := id hS
  have hM := hG.Mm shl sk
  have hn8 := sk.1
  have hp8 := p8 hn8
  refine Cn.of (by decide) (Nat.le_of_ble_eq_true rfl) ?_
  refine Z.eqL (lv' := [(0, .ref 30), (1, .int g)]) rfl ?_
  refine Z.aload_n (pc := 0) (i := 0) dX9_hint_0 rfl rfl ?_
  refine Z.iload_n (pc := 1) (i := 1) dX9_hint_1 rfl rfl ?_
  refine Z.callVi (pc := 2) dX9_hint_2 (c_X9_isGuest hM g) zm_X9_144 zv_X9_isGuest rfl rfl rfl rfl (by decide) (by decide) (Nat.le_of_ble_eq_true rfl) ?_
  refine Z.if_ne_b (pc := 5) (tgt := 11) dX9_hint_5 (by decide) (fun c5 => ?_) (fun c5 => ?_)
  · have q : gB n g = true := c5
    obtain ⟨j, hj, rfl⟩ := gB_of q hn8
    have ej : (nI j).toNatClampNeg = j := nI_clamp (by omega)
    refine Z.aload_n (pc := 11) (i := 0) dX9_hint_11 rfl rfl ?_
    refine Z.getIv (pc := 12) dX9_hint_12 zf_X9_89 rfl rfl hG.2.1 ?_
    refine Z.iload_n (pc := 15) (i := 1) dX9_hint_15 rfl rfl ?_
    refine Z.callSi (pc := 16) dX9_hint_16 (c_X9_isIn hr j (by omega) (by omega)) zm_X9_105 zs_X9_isIn rfl rfl (by decide) (by decide) (Nat.le_of_ble_eq_true rfl) ?_
    refine Z.if_ne_b (pc := 19) (tgt := 25) dX9_hint_19 (by decide) (fun c19 => ?_) (fun c19 => ?_)
    · refine Z.aload_n (pc := 25) (i := 0) dX9_hint_25 rfl rfl ?_
      refine Z.iload_n (pc := 26) (i := 1) dX9_hint_26 rfl rfl ?_
      refine Z.callVv (pc := 27) dX9_hint_27 (c_X9_shyLess hM j hj) zm_X9_157 zv_X9_shyLess rfl rfl rfl rfl (by decide) (by decide) (Nat.le_of_ble_eq_true rfl) ?_
      refine Z.aload_n (pc := 30) (i := 0) dX9_hint_30 rfl rfl ?_
      refine Z.getR (pc := 31) dX9_hint_31 zf_X9_13 rfl rfl ?_
      refine Z.iload_n (pc := 34) (i := 1) dX9_hint_34 rfl rfl ?_
      refine Z.iald (pc := 35) dX9_hint_35 rfl (by omega) (by decide) ?_
      refine Z.top (show _ = lsI (s j) from upd_at _ _ _) ?_
      refine Z.iret (pc := 36) (ty := .int) dX9_hint_36 rfl rfl ?_
      exact km (S' := ((len, pg), (n, k, upd s j (lsI (s j)), f, hr, fd, ho), (sz, sg, so, se), kept, (ihr, ik, js, ifd, iho, (isz, isg, iso, ise)), np)) (by simp [a_hint, q, ej, c19]) ⟨hP.mv rfl rfl, ⟨hG.1, hG.2.1, hG.2.2.1, hG.2.2.2.1, hG.2.2.2.2.1, by show upd (h.1 32) j _ = _; rw [hG.2.2.2.2.2.1], hG.2.2.2.2.2.2⟩, hE.mv rfl rfl rfl rfl, hK.mv rfl rfl rfl, hI.mv rfl rfl rfl rfl rfl rfl rfl rfl rfl, hX.mv hX.1 rfl rfl rfl rfl rfl⟩ (by repeat (first | refine f9_up ?_ (by decide) | refine f9_row ?_ (by decide) | exact f9_rf))
    · refine Z.bipush (pc := 22) (v := (-103)) dX9_hint_22 (by decide) ?_
      refine Z.iret (pc := 24) (ty := .int) dX9_hint_24 rfl rfl ?_
      exact km (S' := ((len, pg), (n, k, s, f, hr, fd, ho), (sz, sg, so, se), kept, (ihr, ik, js, ifd, iho, (isz, isg, iso, ise)), np)) (by simp [a_hint, q, ej, c19]) hD f9_rf
  · have q : gB n g = false := c5
    refine Z.bipush (pc := 8) (v := (-101)) dX9_hint_8 (by decide) ?_
    refine Z.iret (pc := 10) (ty := .int) dX9_hint_10 rfl rfl ?_
    exact km (S' := ((len, pg), (n, k, s, f, hr, fd, ho), (sz, sg, so, se), kept, (ihr, ik, js, ifd, iho, (isz, isg, iso, ise)), np)) (by simp [a_hint, q]) hD f9_rf
set_option maxRecDepth 100000 in
set_option maxHeartbeats 400000 in
theorem c_X9_back {h : hp} {len n hr fd ho sz ihr ifd iho isz np : Nat} {pg k s f sg so se ik js isg iso ise : zF} {kept : Bool} (hD : MS h ((len, pg), (n, k, s, f, hr, fd, ho), (sz, sg, so, se), kept, (ihr, ik, js, ifd, iho, (isz, isg, iso, ise)), np)) (hS : OkS ((len, pg), (n, k, s, f, hr, fd, ho), (sz, sg, so, se), kept, (ihr, ik, js, ifd, iho, (isz, isg, iso, ise)), np)) (g : Int32)  : Cn yX9_back cX9_back 2 (some .int) 2 [.ref 30, .int g] h (KM h (.int (a_back ((len, pg), (n, k, s, f, hr, fd, ho), (sz, sg, so, se), kept, (ihr, ik, js, ifd, iho, (isz, isg, iso, ise)), np) g).1) (a_back ((len, pg), (n, k, s, f, hr, fd, ho), (sz, sg, so, se), kept, (ihr, ik, js, ifd, iho, (isz, isg, iso, ise)), np) g).2) := by
  obtain ⟨hP, hG, hE, hK, hI, hX⟩ := id hD
  obtain ⟨⟨sp1, sp2⟩, ⟨sk, shl, sfd, sho, zk, zs, zf⟩, sE, sI⟩ := id hS
  have hM := hG.Mm shl sk
  have hn8 := sk.1
  have hp8 := p8 hn8
  refine Cn.of (by decide) (Nat.le_of_ble_eq_true rfl) ?_
  refine Z.eqL (lv' := [(0, .ref 30), (1, .int g)]) rfl ?_
  refine Z.aload_n (pc := 0) (i := 0) dX9_back_0 rfl rfl ?_
  refine Z.iload_n (pc := 1) (i := 1) dX9_back_1 rfl rfl ?_
  refine Z.callVi (pc := 2) dX9_back_2 (c_X9_isGuest hM g) zm_X9_144 zv_X9_isGuest rfl rfl rfl rfl (by decide) (by decide) (Nat.le_of_ble_eq_true rfl) ?_
  refine Z.if_ne_b (pc := 5) (tgt := 11) dX9_back_5 (by decide) (fun c5 => ?_) (fun c5 => ?_)
  · have q : gB n g = true := c5
    obtain ⟨j, hj, rfl⟩ := gB_of q hn8
    have ej : (nI j).toNatClampNeg = j := nI_clamp (by omega)
    refine Z.aload_n (pc := 11) (i := 0) dX9_back_11 rfl rfl ?_
    refine Z.getIv (pc := 12) dX9_back_12 zf_X9_89 rfl rfl hG.2.1 ?_
    refine Z.iload_n (pc := 15) (i := 1) dX9_back_15 rfl rfl ?_
    refine Z.callSi (pc := 16) dX9_back_16 (c_X9_isIn hr j (by omega) (by omega)) zm_X9_105 zs_X9_isIn rfl rfl (by decide) (by decide) (Nat.le_of_ble_eq_true rfl) ?_
    refine Z.if_eq_b (pc := 19) (tgt := 25) dX9_back_19 (by decide) (fun c19 => ?_) (fun c19 => ?_)
    · refine Z.aload_n (pc := 25) (i := 0) dX9_back_25 rfl rfl ?_
      refine Z.dup (pc := 26) dX9_back_26 rfl ?_
      refine Z.getIv (pc := 27) dX9_back_27 zf_X9_89 rfl rfl hG.2.1 ?_
      refine Z.iconst (pc := 30) (v := (nI 1)) dX9_back_30 (by decide) ?_
      refine Z.iload_n (pc := 31) (i := 1) dX9_back_31 rfl rfl ?_
      refine Z.ishl (pc := 32) dX9_back_32 ?_
      refine Z.top (nb_shl (by omega)) ?_
      refine Z.ior (pc := 33) dX9_back_33 ?_
      refine Z.top (nb_or _ _) ?_
      refine Z.putI (pc := 34) dX9_back_34 zp_X9_89 rfl rfl rfl rfl ?_
      refine Z.aload_n (pc := 37) (i := 0) dX9_back_37 rfl rfl ?_
      refine Z.getIv (pc := 38) dX9_back_38 zf_X9_89 rfl rfl (z_up_at _ _ _ _) ?_
      refine Z.callSi (pc := 41) dX9_back_41 (c_X9_size _ (Nat.lt_of_lt_of_le (or_lt shl (Nat.pow_lt_pow_right (by decide) hj)) (by omega))) zm_X9_154 zs_X9_size rfl rfl (by decide) (by decide) (Nat.le_of_ble_eq_true rfl) ?_
      refine Z.iret (pc := 44) (ty := .int) dX9_back_44 rfl rfl ?_
      exact km (S' := ((len, pg), (n, k, s, f, hr ||| 2 ^ j, fd, ho), (sz, sg, so, se), kept, (ihr, ik, js, ifd, iho, (isz, isg, iso, ise)), np)) (by simp [a_back, q, ej, c19]) ⟨hP.mv rfl rfl, ⟨hG.1, rfl, hG.2.2⟩, hE.mv rfl rfl rfl rfl, hK.mv rfl rfl rfl, hI.mv rfl rfl rfl rfl rfl rfl rfl rfl rfl, hX.mv hX.1 rfl rfl rfl rfl rfl⟩ (by repeat (first | refine f9_up ?_ (by decide) | refine f9_row ?_ (by decide) | exact f9_rf))
    · refine Z.bipush (pc := 22) (v := (-103)) dX9_back_22 (by decide) ?_
      refine Z.iret (pc := 24) (ty := .int) dX9_back_24 rfl rfl ?_
      exact km (S' := ((len, pg), (n, k, s, f, hr, fd, ho), (sz, sg, so, se), kept, (ihr, ik, js, ifd, iho, (isz, isg, iso, ise)), np)) (by simp [a_back, q, ej, c19]) hD f9_rf
  · have q : gB n g = false := c5
    refine Z.bipush (pc := 8) (v := (-101)) dX9_back_8 (by decide) ?_
    refine Z.iret (pc := 10) (ty := .int) dX9_back_10 rfl rfl ?_
    exact km (S' := ((len, pg), (n, k, s, f, hr, fd, ho), (sz, sg, so, se), kept, (ihr, ik, js, ifd, iho, (isz, isg, iso, ise)), np)) (by simp [a_back, q]) hD f9_rf
set_option maxRecDepth 100000 in
set_option maxHeartbeats 400000 in
theorem c_X9_feed {h : hp} {len n hr fd ho sz ihr ifd iho isz np : Nat} {pg k s f sg so se ik js isg iso ise : zF} {kept : Bool} (hD : MS h ((len, pg), (n, k, s, f, hr, fd, ho), (sz, sg, so, se), kept, (ihr, ik, js, ifd, iho, (isz, isg, iso, ise)), np)) (hS : OkS ((len, pg), (n, k, s, f, hr, fd, ho), (sz, sg, so, se), kept, (ihr, ik, js, ifd, iho, (isz, isg, iso, ise)), np)) (m : Int32)  : Cn yX9_feed cX9_feed 2 (some .int) 1 [.ref 30, .int m] h (KM h (.int (a_feed ((len, pg), (n, k, s, f, hr, fd, ho), (sz, sg, so, se), kept, (ihr, ik, js, ifd, iho, (isz, isg, iso, ise)), np) m).1) (a_feed ((len, pg), (n, k, s, f, hr, fd, ho), (sz, sg, so, se), kept, (ihr, ik, js, ifd, iho, (isz, isg, iso, ise)), np) m).2) := by
  obtain ⟨hP, hG, hE, hK, hI, hX⟩ := id hD
  obtain ⟨⟨sp1, sp2⟩, ⟨sk, shl, sfd, sho, zk, zs, zf⟩, sE, sI⟩ := id hS
  have hM := hG.Mm shl sk
  have hn8 := sk.1
  have hp8 := p8 hn8
  refine Cn.of (by decide) (Nat.le_of_ble_eq_true rfl) ?_
  refine Z.eqL (lv' := [(0, .ref 30), (1, .int m)]) rfl ?_
  refine Z.iload_n (pc := 0) (i := 1) dX9_feed_0 rfl rfl ?_
  refine Z.iconst (pc := 1) (v := (1)) dX9_feed_1 (by decide) ?_
  refine Z.bipush (pc := 2) (v := (50)) dX9_feed_2 (by decide) ?_
  refine Z.callSi (pc := 4) dX9_feed_4 (c_X9_within _ _ _) zm_X9_50 zs_X9_within rfl rfl (by decide) (by decide) (Nat.le_of_ble_eq_true rfl) ?_
  refine Z.if_ne_b (pc := 7) (tgt := 13) dX9_feed_7 (by decide) (fun c7 => ?_) (fun c7 => ?_)
  · have q : inR m 1 50 = true := c7
    obtain ⟨a, ha1, ha, rfl⟩ := inR_of1 (b := 50) (by decide) q
    have ea : (nI a).toNatClampNeg = a := nI_clamp (by omega)
    refine Z.aload_n (pc := 13) (i := 0) dX9_feed_13 rfl rfl ?_
    refine Z.getIv (pc := 14) dX9_feed_14 zf_X9_83 rfl rfl hG.1 ?_
    refine Z.if_ne (pc := 17) (tgt := 23) dX9_feed_17 (by decide) (fun c17 => ?_) (fun c17 => ?_)
    · have n0 : ¬ n = 0 := fun z => c17 (by rw [z]; rfl)
      refine Z.aload_n (pc := 23) (i := 0) dX9_feed_23 rfl rfl ?_
      refine Z.getIv (pc := 24) dX9_feed_24 zf_X9_86 rfl rfl hG.2.2.1 ?_
      refine Z.iload_n (pc := 27) (i := 1) dX9_feed_27 rfl rfl ?_
      refine Z.iadd (pc := 28) dX9_feed_28 ?_
      refine Z.top (nI_add _ _) ?_
      refine Z.bipush (pc := 29) (v := (nI 99)) dX9_feed_29 (by decide) ?_
      refine Z.icmp_le (pc := 31) (tgt := 37) dX9_feed_31 (by decide) (fun c31 => ?_) (fun c31 => ?_)
      · have q2 : ¬ 99 < fd + a := by have := (nI_leI (by omega) (by decide)).mp c31; omega
        refine Z.aload_n (pc := 37) (i := 0) dX9_feed_37 rfl rfl ?_
        refine Z.dup (pc := 38) dX9_feed_38 rfl ?_
        refine Z.getIv (pc := 39) dX9_feed_39 zf_X9_86 rfl rfl hG.2.2.1 ?_
        refine Z.iload_n (pc := 42) (i := 1) dX9_feed_42 rfl rfl ?_
        refine Z.iadd (pc := 43) dX9_feed_43 ?_
        refine Z.top (nI_add _ _) ?_
        refine Z.putI (pc := 44) dX9_feed_44 zp_X9_86 rfl rfl rfl rfl ?_
        refine Z.aload_n (pc := 47) (i := 0) dX9_feed_47 rfl rfl ?_
        refine Z.getIv (pc := 48) dX9_feed_48 zf_X9_86 rfl rfl (z_up_at _ _ _ _) ?_
        refine Z.iret (pc := 51) (ty := .int) dX9_feed_51 rfl rfl ?_
        exact km (S' := ((len, pg), (n, k, s, f, hr, fd + a, ho), (sz, sg, so, se), kept, (ihr, ik, js, ifd, iho, (isz, isg, iso, ise)), np)) (by simp [a_feed, q, n0, ea, q2]) ⟨hP.mv rfl rfl, ⟨hG.1, hG.2.1, rfl, hG.2.2.2⟩, hE.mv rfl rfl rfl rfl, hK.mv rfl rfl rfl, hI.mv rfl rfl rfl rfl rfl rfl rfl rfl rfl, hX.mv hX.1 rfl rfl rfl rfl rfl⟩ (by repeat (first | refine f9_up ?_ (by decide) | refine f9_row ?_ (by decide) | exact f9_rf))
      · have q2 : 99 < fd + a := Nat.not_le.mp (fun w => c31 (nI_le w (by decide)))
        refine Z.bipush (pc := 34) (v := (-104)) dX9_feed_34 (by decide) ?_
        refine Z.iret (pc := 36) (ty := .int) dX9_feed_36 rfl rfl ?_
        exact km (S' := ((len, pg), (n, k, s, f, hr, fd, ho), (sz, sg, so, se), kept, (ihr, ik, js, ifd, iho, (isz, isg, iso, ise)), np)) (by simp [a_feed, q, n0, ea, q2]) hD f9_rf
    · have n0 : n = 0 := (nI_0' (by omega)).mp c17
      refine Z.bipush (pc := 20) (v := (-103)) dX9_feed_20 (by decide) ?_
      refine Z.iret (pc := 22) (ty := .int) dX9_feed_22 rfl rfl ?_
      exact km (S' := ((len, pg), (n, k, s, f, hr, fd, ho), (sz, sg, so, se), kept, (ihr, ik, js, ifd, iho, (isz, isg, iso, ise)), np)) (by simp [a_feed, q, n0]) hD f9_rf
  · have q : inR m 1 50 = false := c7
    refine Z.bipush (pc := 10) (v := (-102)) dX9_feed_10 (by decide) ?_
    refine Z.iret (pc := 12) (ty := .int) dX9_feed_12 rfl rfl ?_
    exact km (S' := ((len, pg), (n, k, s, f, hr, fd, ho), (sz, sg, so, se), kept, (ihr, ik, js, ifd, iho, (isz, isg, iso, ise)), np)) (by simp [a_feed, q]) hD f9_rf
set_option maxRecDepth 100000 in
set_option maxHeartbeats 400000 in
theorem c_X9_turn {h : hp} {len n hr fd ho sz ihr ifd iho isz np : Nat} {pg k s f sg so se ik js isg iso ise : zF} {kept : Bool} (hD : MS h ((len, pg), (n, k, s, f, hr, fd, ho), (sz, sg, so, se), kept, (ihr, ik, js, ifd, iho, (isz, isg, iso, ise)), np)) (hS : OkS ((len, pg), (n, k, s, f, hr, fd, ho), (sz, sg, so, se), kept, (ihr, ik, js, ifd, iho, (isz, isg, iso, ise)), np)) (g w y : Int32)  : Cn yX9_turn cX9_turn 5 (some .int) 2 [.ref 30, .int g, .int w, .int y] h (KM h (.int (a_turn ((len, pg), (n, k, s, f, hr, fd, ho), (sz, sg, so, se), kept, (ihr, ik, js, ifd, iho, (isz, isg, iso, ise)), np) g w y).1) (a_turn ((len, pg), (n, k, s, f, hr, fd, ho), (sz, sg, so, se), kept, (ihr, ik, js, ifd, iho, (isz, isg, iso, ise)), np) g w y).2) := by
  obtain ⟨hP, hG, hE, hK, hI, hX⟩ := id hD
  obtain ⟨⟨sp1, sp2⟩, ⟨sk, shl, sfd, sho, zk, zs, zf⟩, sE, sI⟩ := id hS
  have hM := hG.Mm shl sk
  have hn8 := sk.1
  have hp8 := p8 hn8
  refine Cn.of (by decide) (Nat.le_of_ble_eq_true rfl) ?_
  refine Z.eqL (lv' := [(0, .ref 30), (1, .int g), (2, .int w), (3, .int y)]) rfl ?_
  refine Z.aload_n (pc := 0) (i := 0) dX9_turn_0 rfl rfl ?_
  refine Z.iload_n (pc := 1) (i := 1) dX9_turn_1 rfl rfl ?_
  refine Z.callVi (pc := 2) dX9_turn_2 (c_X9_isGuest hM g) zm_X9_144 zv_X9_isGuest rfl rfl rfl rfl (by decide) (by decide) (Nat.le_of_ble_eq_true rfl) ?_
  refine Z.if_ne_b (pc := 5) (tgt := 11) dX9_turn_5 (by decide) (fun c5 => ?_) (fun c5 => ?_)
  · have q : gB n g = true := c5
    obtain ⟨j, hj, rfl⟩ := gB_of q hn8
    have ej : (nI j).toNatClampNeg = j := nI_clamp (by omega)
    refine Z.iload_n (pc := 11) (i := 2) dX9_turn_11 rfl rfl ?_
    refine Z.iconst (pc := 12) (v := (0)) dX9_turn_12 (by decide) ?_
    refine Z.iconst (pc := 13) (v := (4)) dX9_turn_13 (by decide) ?_
    refine Z.callSi (pc := 14) dX9_turn_14 (c_X9_within _ _ _) zm_X9_50 zs_X9_within rfl rfl (by decide) (by decide) (Nat.le_of_ble_eq_true rfl) ?_
    refine Z.if_eq_b (pc := 17) (tgt := 30) dX9_turn_17 (by decide) (fun c17 => ?_) (fun c17 => ?_)
    · have q2 : (inR w 0 4 && inR y 0 9) = false := by rw [c17]; rfl
      refine Z.bipush (pc := 30) (v := (-102)) dX9_turn_30 (by decide) ?_
      refine Z.iret (pc := 32) (ty := .int) dX9_turn_32 rfl rfl ?_
      exact km (S' := ((len, pg), (n, k, s, f, hr, fd, ho), (sz, sg, so, se), kept, (ihr, ik, js, ifd, iho, (isz, isg, iso, ise)), np)) (by rw [a_turn, q, q2]; rfl) hD f9_rf
    · refine Z.iload_n (pc := 20) (i := 3) dX9_turn_20 rfl rfl ?_
      refine Z.iconst (pc := 21) (v := (0)) dX9_turn_21 (by decide) ?_
      refine Z.bipush (pc := 22) (v := (9)) dX9_turn_22 (by decide) ?_
      refine Z.callSi (pc := 24) dX9_turn_24 (c_X9_within _ _ _) zm_X9_50 zs_X9_within rfl rfl (by decide) (by decide) (Nat.le_of_ble_eq_true rfl) ?_
      refine Z.if_ne_b (pc := 27) (tgt := 33) dX9_turn_27 (by decide) (fun c27 => ?_) (fun c27 => ?_)
      · have q2 : (inR w 0 4 && inR y 0 9) = true := by rw [c17, show inR y 0 9 = true from c27]; rfl
        refine Z.aload_n (pc := 33) (i := 0) dX9_turn_33 rfl rfl ?_
        refine Z.getR (pc := 34) dX9_turn_34 zf_X9_7 rfl rfl ?_
        refine Z.iload_n (pc := 37) (i := 1) dX9_turn_37 rfl rfl ?_
        refine Z.iald (pc := 38) dX9_turn_38 rfl (by omega) (by decide) ?_
        refine Z.top (show _ = k j from congrFun hG.2.2.2.2.1 j) ?_
        refine Z.istore (pc := 39) (i := 4) dX9_turn_39 (by decide) rfl ?_
        refine Z.aload_n (pc := 41) (i := 0) dX9_turn_41 rfl rfl ?_
        refine Z.getR (pc := 42) dX9_turn_42 zf_X9_7 rfl rfl ?_
        refine Z.iload_n (pc := 45) (i := 1) dX9_turn_45 rfl rfl ?_
        refine Z.iload_n (pc := 46) (i := 2) dX9_turn_46 rfl rfl ?_
        refine Z.iast (pc := 47) dX9_turn_47 rfl (by omega) (by decide) ?_
        refine Z.aload_n (pc := 48) (i := 0) dX9_turn_48 rfl rfl ?_
        refine Z.getR (pc := 49) dX9_turn_49 zf_X9_13 rfl rfl ?_
        refine Z.iload_n (pc := 52) (i := 1) dX9_turn_52 rfl rfl ?_
        refine Z.iload_n (pc := 53) (i := 3) dX9_turn_53 rfl rfl ?_
        refine Z.iast (pc := 54) dX9_turn_54 rfl (by omega) (by decide) ?_
        refine Z.iload (pc := 55) (i := 4) dX9_turn_55 rfl ?_
        refine Z.iret (pc := 57) (ty := .int) dX9_turn_57 rfl rfl ?_
        exact km (S' := ((len, pg), (n, upd k j w, upd s j y, f, hr, fd, ho), (sz, sg, so, se), kept, (ihr, ik, js, ifd, iho, (isz, isg, iso, ise)), np)) (by rw [a_turn, q, q2, ej]; rfl) ⟨hP.mv rfl rfl, ⟨hG.1, hG.2.1, hG.2.2.1, hG.2.2.2.1, by show upd (h.1 31) j w = _; rw [hG.2.2.2.2.1], by show upd (h.1 32) j y = _; rw [hG.2.2.2.2.2.1], hG.2.2.2.2.2.2⟩, hE.mv rfl rfl rfl rfl, hK.mv rfl rfl rfl, hI.mv rfl rfl rfl rfl rfl rfl rfl rfl rfl, hX.mv hX.1 rfl rfl rfl rfl rfl⟩ (by repeat (first | refine f9_up ?_ (by decide) | refine f9_row ?_ (by decide) | exact f9_rf))
      · have q2 : (inR w 0 4 && inR y 0 9) = false := by rw [show inR y 0 9 = false from c27]; simp
        refine Z.bipush (pc := 30) (v := (-102)) dX9_turn_30 (by decide) ?_
        refine Z.iret (pc := 32) (ty := .int) dX9_turn_32 rfl rfl ?_
        exact km (S' := ((len, pg), (n, k, s, f, hr, fd, ho), (sz, sg, so, se), kept, (ihr, ik, js, ifd, iho, (isz, isg, iso, ise)), np)) (by rw [a_turn, q, q2]; rfl) hD f9_rf
  · have q : gB n g = false := c5
    refine Z.bipush (pc := 8) (v := (-101)) dX9_turn_8 (by decide) ?_
    refine Z.iret (pc := 10) (ty := .int) dX9_turn_10 rfl rfl ?_
    exact km (S' := ((len, pg), (n, k, s, f, hr, fd, ho), (sz, sg, so, se), kept, (ihr, ik, js, ifd, iho, (isz, isg, iso, ise)), np)) (by simp [a_turn, q]) hD f9_rf
set_option maxRecDepth 100000 in
set_option maxHeartbeats 400000 in
theorem c_X9_most {h : hp} {len n hr fd ho sz ihr ifd iho isz np : Nat} {pg k s f sg so se ik js isg iso ise : zF} {kept : Bool} (hD : MS h ((len, pg), (n, k, s, f, hr, fd, ho), (sz, sg, so, se), kept, (ihr, ik, js, ifd, iho, (isz, isg, iso, ise)), np)) (hS : OkS ((len, pg), (n, k, s, f, hr, fd, ho), (sz, sg, so, se), kept, (ihr, ik, js, ifd, iho, (isz, isg, iso, ise)), np))  : Cn yX9_most cX9_most 1 (some .int) 6 [.ref 30] h (KM h (.int (a_most ((len, pg), (n, k, s, f, hr, fd, ho), (sz, sg, so, se), kept, (ihr, ik, js, ifd, iho, (isz, isg, iso, ise)), np)).1) (a_most ((len, pg), (n, k, s, f, hr, fd, ho), (sz, sg, so, se), kept, (ihr, ik, js, ifd, iho, (isz, isg, iso, ise)), np)).2) := by
  obtain ⟨hP, hG, hE, hK, hI, hX⟩ := id hD
  obtain ⟨⟨sp1, sp2⟩, ⟨sk, shl, sfd, sho, zk, zs, zf⟩, sE, sI⟩ := id hS
  have hM := hG.Mm shl sk
  have hn8 := sk.1
  have hp8 := p8 hn8
  refine Cn.of (by decide) (Nat.le_of_ble_eq_true rfl) ?_
  refine Z.eqL (lv' := [(0, .ref 30)]) rfl ?_
  refine Z.aload_n (pc := 0) (i := 0) dX9_most_0 rfl rfl ?_
  refine Z.getIv (pc := 1) dX9_most_1 zf_X9_83 rfl rfl hG.1 ?_
  refine Z.if_ne (pc := 4) (tgt := 12) dX9_most_4 (by decide) (fun c4 => ?_) (fun c4 => ?_)
  · have n0 : ¬ n = 0 := fun z => c4 (by rw [z]; rfl)
    refine Z.aload_n (pc := 12) (i := 0) dX9_most_12 rfl rfl ?_
    refine Z.aload_n (pc := 13) (i := 0) dX9_most_13 rfl rfl ?_
    refine Z.getIv (pc := 14) dX9_most_14 zf_X9_89 rfl rfl hG.2.1 ?_
    refine Z.callVi (pc := 17) dX9_most_17 (c_X9_mostOf hM hr shl) zm_X9_167 zv_X9_mostOf rfl rfl rfl rfl (by decide) (by decide) (Nat.le_of_ble_eq_true rfl) ?_
    refine Z.iret (pc := 20) (ty := .int) dX9_most_20 rfl rfl ?_
    refine km (S' := ((len, pg), (n, k, s, f, hr, fd, ho), (sz, sg, so, se), kept, (ihr, ik, js, ifd, iho, (isz, isg, iso, ise)), np)) ?_ hD f9_rf
    first | (simp [a_most, n0]; done)
  · have n0 : n = 0 := (nI_0' (by omega)).mp c4
    refine Z.bipush (pc := 7) (v := (-103)) dX9_most_7 (by decide) ?_
    refine Z.goto (pc := 9) (tgt := 20) dX9_most_9 (by decide) ?_
    refine Z.iret (pc := 20) (ty := .int) dX9_most_20 rfl rfl ?_
    refine km (S' := ((len, pg), (n, k, s, f, hr, fd, ho), (sz, sg, so, se), kept, (ihr, ik, js, ifd, iho, (isz, isg, iso, ise)), np)) ?_ hD f9_rf
    first | (simp [a_most, n0]; done)
set_option maxRecDepth 100000 in
set_option maxHeartbeats 400000 in
theorem c_X9_least {h : hp} {len n hr fd ho sz ihr ifd iho isz np : Nat} {pg k s f sg so se ik js isg iso ise : zF} {kept : Bool} (hD : MS h ((len, pg), (n, k, s, f, hr, fd, ho), (sz, sg, so, se), kept, (ihr, ik, js, ifd, iho, (isz, isg, iso, ise)), np)) (hS : OkS ((len, pg), (n, k, s, f, hr, fd, ho), (sz, sg, so, se), kept, (ihr, ik, js, ifd, iho, (isz, isg, iso, ise)), np))  : Cn yX9_least cX9_least 1 (some .int) 6 [.ref 30] h (KM h (.int (a_least ((len, pg), (n, k, s, f, hr, fd, ho), (sz, sg, so, se), kept, (ihr, ik, js, ifd, iho, (isz, isg, iso, ise)), np)).1) (a_least ((len, pg), (n, k, s, f, hr, fd, ho), (sz, sg, so, se), kept, (ihr, ik, js, ifd, iho, (isz, isg, iso, ise)), np)).2) := by
  obtain ⟨hP, hG, hE, hK, hI, hX⟩ := id hD
  obtain ⟨⟨sp1, sp2⟩, ⟨sk, shl, sfd, sho, zk, zs, zf⟩, sE, sI⟩ := id hS
  have hM := hG.Mm shl sk
  have hn8 := sk.1
  have hp8 := p8 hn8
  refine Cn.of (by decide) (Nat.le_of_ble_eq_true rfl) ?_
  refine Z.eqL (lv' := [(0, .ref 30)]) rfl ?_
  refine Z.aload_n (pc := 0) (i := 0) dX9_least_0 rfl rfl ?_
  refine Z.getIv (pc := 1) dX9_least_1 zf_X9_83 rfl rfl hG.1 ?_
  refine Z.if_ne (pc := 4) (tgt := 12) dX9_least_4 (by decide) (fun c4 => ?_) (fun c4 => ?_)
  · have n0 : ¬ n = 0 := fun z => c4 (by rw [z]; rfl)
    refine Z.aload_n (pc := 12) (i := 0) dX9_least_12 rfl rfl ?_
    refine Z.callVi (pc := 13) dX9_least_13 (c_X9_leastNow hM) zm_X9_170 zv_X9_leastNow rfl rfl rfl rfl (by decide) (by decide) (Nat.le_of_ble_eq_true rfl) ?_
    refine Z.iret (pc := 16) (ty := .int) dX9_least_16 rfl rfl ?_
    refine km (S' := ((len, pg), (n, k, s, f, hr, fd, ho), (sz, sg, so, se), kept, (ihr, ik, js, ifd, iho, (isz, isg, iso, ise)), np)) ?_ hD f9_rf
    first | (simp [a_least, n0]; done)
  · have n0 : n = 0 := (nI_0' (by omega)).mp c4
    refine Z.bipush (pc := 7) (v := (-103)) dX9_least_7 (by decide) ?_
    refine Z.goto (pc := 9) (tgt := 16) dX9_least_9 (by decide) ?_
    refine Z.iret (pc := 16) (ty := .int) dX9_least_16 rfl rfl ?_
    refine km (S' := ((len, pg), (n, k, s, f, hr, fd, ho), (sz, sg, so, se), kept, (ihr, ik, js, ifd, iho, (isz, isg, iso, ise)), np)) ?_ hD f9_rf
    first | (simp [a_least, n0]; done)
set_option maxRecDepth 100000 in
set_option maxHeartbeats 400000 in
theorem c_X9_hire {h : hp} {len n hr fd ho sz ihr ifd iho isz np : Nat} {pg k s f sg so se ik js isg iso ise : zF} {kept : Bool} (hD : MS h ((len, pg), (n, k, s, f, hr, fd, ho), (sz, sg, so, se), kept, (ihr, ik, js, ifd, iho, (isz, isg, iso, ise)), np)) (hS : OkS ((len, pg), (n, k, s, f, hr, fd, ho), (sz, sg, so, se), kept, (ihr, ik, js, ifd, iho, (isz, isg, iso, ise)), np)) (w : Int32)  : Cn yX9_hire cX9_hire 2 (some .int) 6 [.ref 30, .int w] h (KM h (.int (a_hire ((len, pg), (n, k, s, f, hr, fd, ho), (sz, sg, so, se), kept, (ihr, ik, js, ifd, iho, (isz, isg, iso, ise)), np) w).1) (a_hire ((len, pg), (n, k, s, f, hr, fd, ho), (sz, sg, so, se), kept, (ihr, ik, js, ifd, iho, (isz, isg, iso, ise)), np) w).2) := by
  obtain ⟨hP, hG, hE, hK, hI, hX⟩ := id hD
  obtain ⟨⟨sp1, sp2⟩, ⟨sk, shl, sfd, sho, zk, zs, zf⟩, sE, sI⟩ := id hS
  have hM := hG.Mm shl sk
  have hn8 := sk.1
  have hp8 := p8 hn8
  refine Cn.of (by decide) (Nat.le_of_ble_eq_true rfl) ?_
  refine Z.eqL (lv' := [(0, .ref 30), (1, .int w)]) rfl ?_
  refine Z.iload_n (pc := 0) (i := 1) dX9_hire_0 rfl rfl ?_
  refine Z.iconst (pc := 1) (v := (0)) dX9_hire_1 (by decide) ?_
  refine Z.iconst (pc := 2) (v := (1)) dX9_hire_2 (by decide) ?_
  refine Z.callSi (pc := 3) dX9_hire_3 (c_X9_within _ _ _) zm_X9_50 zs_X9_within rfl rfl (by decide) (by decide) (Nat.le_of_ble_eq_true rfl) ?_
  refine Z.if_ne_b (pc := 6) (tgt := 12) dX9_hire_6 (by decide) (fun c6 => ?_) (fun c6 => ?_)
  · have q : inR w 0 1 = true := c6
    refine Z.aload_n (pc := 12) (i := 0) dX9_hire_12 rfl rfl ?_
    refine Z.getIv (pc := 13) dX9_hire_13 zf_X9_83 rfl rfl hG.1 ?_
    refine Z.if_ne (pc := 16) (tgt := 24) dX9_hire_16 (by decide) (fun c16 => ?_) (fun c16 => ?_)
    · have n0 : ¬ n = 0 := fun z => c16 (by rw [z]; rfl)
      refine Z.iload_n (pc := 24) (i := 1) dX9_hire_24 rfl rfl ?_
      refine Z.if_ne (pc := 25) (tgt := 38) dX9_hire_25 (by decide) (fun c25 => ?_) (fun c25 => ?_)
      · refine Z.aload_n (pc := 38) (i := 0) dX9_hire_38 rfl rfl ?_
        refine Z.callVi (pc := 39) dX9_hire_39 (c_X9_hired hM) zm_X9_180 zv_X9_hired rfl rfl rfl rfl (by decide) (by decide) (Nat.le_of_ble_eq_true rfl) ?_
        refine Z.iret (pc := 42) (ty := .int) dX9_hire_42 rfl rfl ?_
        refine km (S' := ((len, pg), (n, k, s, f, hr, fd, ho), (sz, sg, so, se), kept, (ihr, ik, js, ifd, iho, (isz, isg, iso, ise)), np)) ?_ hD f9_rf
        first | (simp [a_hire, q, n0]; done) | (simp [a_hire, q, n0, c25]; done) | (simp [a_hire, q, n0, c25, hirN]; done) | (subst c25; simp [a_hire, q, n0, hirN]; done)
      · refine Z.aload_n (pc := 28) (i := 0) dX9_hire_28 rfl rfl ?_
        refine Z.callVi (pc := 29) dX9_hire_29 (c_X9_hired hM) zm_X9_180 zv_X9_hired rfl rfl rfl rfl (by decide) (by decide) (Nat.le_of_ble_eq_true rfl) ?_
        refine Z.callSi (pc := 32) dX9_hire_32 (c_X9_size _ (Nat.lt_of_le_of_lt (dif_le _ _) (by omega))) zm_X9_154 zs_X9_size rfl rfl (by decide) (by decide) (Nat.le_of_ble_eq_true rfl) ?_
        refine Z.goto (pc := 35) (tgt := 42) dX9_hire_35 (by decide) ?_
        refine Z.iret (pc := 42) (ty := .int) dX9_hire_42 rfl rfl ?_
        refine km (S' := ((len, pg), (n, k, s, f, hr, fd, ho), (sz, sg, so, se), kept, (ihr, ik, js, ifd, iho, (isz, isg, iso, ise)), np)) ?_ hD f9_rf
        first | (simp [a_hire, q, n0]; done) | (simp [a_hire, q, n0, c25]; done) | (simp [a_hire, q, n0, c25, hirN]; done) | (subst c25; simp [a_hire, q, n0, hirN]; done)
    · have n0 : n = 0 := (nI_0' (by omega)).mp c16
      refine Z.bipush (pc := 19) (v := (-103)) dX9_hire_19 (by decide) ?_
      refine Z.goto (pc := 21) (tgt := 42) dX9_hire_21 (by decide) ?_
      refine Z.iret (pc := 42) (ty := .int) dX9_hire_42 rfl rfl ?_
      refine km (S' := ((len, pg), (n, k, s, f, hr, fd, ho), (sz, sg, so, se), kept, (ihr, ik, js, ifd, iho, (isz, isg, iso, ise)), np)) ?_ hD f9_rf
      first | (simp [a_hire, q, n0]; done) | (simp [a_hire, q, n0, c25]; done) | (simp [a_hire, q, n0, c25, hirN]; done) | (subst c25; simp [a_hire, q, n0, hirN]; done)
  · have q : inR w 0 1 = false := c6
    refine Z.bipush (pc := 9) (v := (-102)) dX9_hire_9 (by decide) ?_
    refine Z.iret (pc := 11) (ty := .int) dX9_hire_11 rfl rfl ?_
    exact km (S' := ((len, pg), (n, k, s, f, hr, fd, ho), (sz, sg, so, se), kept, (ihr, ik, js, ifd, iho, (isz, isg, iso, ise)), np)) (by simp [a_hire, q]) hD f9_rf
set_option maxRecDepth 100000 in
set_option maxHeartbeats 400000 in
theorem c_X9_ends {h : hp} {len n hr fd ho sz ihr ifd iho isz np : Nat} {pg k s f sg so se ik js isg iso ise : zF} {kept : Bool} (hD : MS h ((len, pg), (n, k, s, f, hr, fd, ho), (sz, sg, so, se), kept, (ihr, ik, js, ifd, iho, (isz, isg, iso, ise)), np)) (hS : OkS ((len, pg), (n, k, s, f, hr, fd, ho), (sz, sg, so, se), kept, (ihr, ik, js, ifd, iho, (isz, isg, iso, ise)), np))  : Cn yX9_ends cX9_ends 1 (some .int) 7 [.ref 30] h (KM h (.int (a_ends ((len, pg), (n, k, s, f, hr, fd, ho), (sz, sg, so, se), kept, (ihr, ik, js, ifd, iho, (isz, isg, iso, ise)), np)).1) (a_ends ((len, pg), (n, k, s, f, hr, fd, ho), (sz, sg, so, se), kept, (ihr, ik, js, ifd, iho, (isz, isg, iso, ise)), np)).2) := by
  obtain ⟨hP, hG, hE, hK, hI, hX⟩ := id hD
  obtain ⟨⟨sp1, sp2⟩, ⟨sk, shl, sfd, sho, zk, zs, zf⟩, sE, sI⟩ := id hS
  have hM := hG.Mm shl sk
  have hn8 := sk.1
  have hp8 := p8 hn8
  refine Cn.of (by decide) (Nat.le_of_ble_eq_true rfl) ?_
  refine Z.eqL (lv' := [(0, .ref 30)]) rfl ?_
  refine Z.aload_n (pc := 0) (i := 0) dX9_ends_0 rfl rfl ?_
  refine Z.getIv (pc := 1) dX9_ends_1 zf_X9_83 rfl rfl hG.1 ?_
  refine Z.if_ne (pc := 4) (tgt := 12) dX9_ends_4 (by decide) (fun c4 => ?_) (fun c4 => ?_)
  · have n0 : ¬ n = 0 := fun z => c4 (by rw [z]; rfl)
    refine Z.aload_n (pc := 12) (i := 0) dX9_ends_12 rfl rfl ?_
    refine Z.callV (pc := 13) dX9_ends_13 (c_X9_endsNow hM hG.2.2.1 sfd zs hX.1) zm_X9_195 zv_X9_endsNow rfl rfl rfl rfl (by decide) (by decide) (Nat.le_of_ble_eq_true rfl) (fun r13 h13 k13 => ?_)
    obtain ⟨e, hO⟩ := k13
    subst e
    obtain ⟨g1, g2⟩ := MS_OX hD hO.X
    refine Z.iret (pc := 16) (ty := .int) dX9_ends_16 rfl rfl ?_
    first
      | exact km (S' := ((len, pg), (n, k, s, f, hr, fd, ho), (sz, sg, so, se), kept, (ihr, ik, js, ifd, iho, (isz, isg, iso, ise)), np)) (by simp [a_ends, n0]) hD f9_rf
      | exact km (S' := ((len, pg), (n, k, s, f, hr, fd, ho), (sz, sg, so, se), kept, (ihr, ik, js, ifd, iho, (isz, isg, iso, ise)), np)) (by simp [a_ends, n0]) g1 g2
  · have n0 : n = 0 := (nI_0' (by omega)).mp c4
    refine Z.bipush (pc := 7) (v := (-103)) dX9_ends_7 (by decide) ?_
    refine Z.goto (pc := 9) (tgt := 16) dX9_ends_9 (by decide) ?_
    refine Z.iret (pc := 16) (ty := .int) dX9_ends_16 rfl rfl ?_
    first
      | exact km (S' := ((len, pg), (n, k, s, f, hr, fd, ho), (sz, sg, so, se), kept, (ihr, ik, js, ifd, iho, (isz, isg, iso, ise)), np)) (by simp [a_ends, n0]) hD f9_rf
      | exact km (S' := ((len, pg), (n, k, s, f, hr, fd, ho), (sz, sg, so, se), kept, (ihr, ik, js, ifd, iho, (isz, isg, iso, ise)), np)) (by simp [a_ends, n0]) g1 g2
set_option maxRecDepth 100000 in
set_option maxHeartbeats 400000 in
theorem c_X9_odds {h : hp} {len n hr fd ho sz ihr ifd iho isz np : Nat} {pg k s f sg so se ik js isg iso ise : zF} {kept : Bool} (hD : MS h ((len, pg), (n, k, s, f, hr, fd, ho), (sz, sg, so, se), kept, (ihr, ik, js, ifd, iho, (isz, isg, iso, ise)), np)) (hS : OkS ((len, pg), (n, k, s, f, hr, fd, ho), (sz, sg, so, se), kept, (ihr, ik, js, ifd, iho, (isz, isg, iso, ise)), np)) (g t w : Int32)  : Cn yX9_odds cX9_odds 4 (some .int) 7 [.ref 30, .int g, .int t, .int w] h (KM h (.int (a_odds ((len, pg), (n, k, s, f, hr, fd, ho), (sz, sg, so, se), kept, (ihr, ik, js, ifd, iho, (isz, isg, iso, ise)), np) g t w).1) (a_odds ((len, pg), (n, k, s, f, hr, fd, ho), (sz, sg, so, se), kept, (ihr, ik, js, ifd, iho, (isz, isg, iso, ise)), np) g t w).2) := by
  obtain ⟨hP, hG, hE, hK, hI, hX⟩ := id hD
  obtain ⟨⟨sp1, sp2⟩, ⟨sk, shl, sfd, sho, zk, zs, zf⟩, sE, sI⟩ := id hS
  have hM := hG.Mm shl sk
  have hn8 := sk.1
  have hp8 := p8 hn8
  refine Cn.of (by decide) (Nat.le_of_ble_eq_true rfl) ?_
  refine Z.eqL (lv' := [(0, .ref 30), (1, .int g), (2, .int t), (3, .int w)]) rfl ?_
  refine Z.aload_n (pc := 0) (i := 0) dX9_odds_0 rfl rfl ?_
  refine Z.iload_n (pc := 1) (i := 1) dX9_odds_1 rfl rfl ?_
  refine Z.callVi (pc := 2) dX9_odds_2 (c_X9_isGuest hM g) zm_X9_144 zv_X9_isGuest rfl rfl rfl rfl (by decide) (by decide) (Nat.le_of_ble_eq_true rfl) ?_
  refine Z.if_ne_b (pc := 5) (tgt := 11) dX9_odds_5 (by decide) (fun c5 => ?_) (fun c5 => ?_)
  · have q : gB n g = true := c5
    obtain ⟨j, hj, rfl⟩ := gB_of q hn8
    have ej : (nI j).toNatClampNeg = j := nI_clamp (by omega)
    refine Z.iload_n (pc := 11) (i := 2) dX9_odds_11 rfl rfl ?_
    refine Z.iconst (pc := 12) (v := (0)) dX9_odds_12 (by decide) ?_
    refine Z.bipush (pc := 13) (v := (10)) dX9_odds_13 (by decide) ?_
    refine Z.callSi (pc := 15) dX9_odds_15 (c_X9_within _ _ _) zm_X9_50 zs_X9_within rfl rfl (by decide) (by decide) (Nat.le_of_ble_eq_true rfl) ?_
    refine Z.if_eq_b (pc := 18) (tgt := 30) dX9_odds_18 (by decide) (fun c18 => ?_) (fun c18 => ?_)
    · have q2 : (inR t 0 10 && inR w 0 1) = false := by rw [show inR t 0 10 = false from c18]; rfl
      refine Z.bipush (pc := 30) (v := (-102)) dX9_odds_30 (by decide) ?_
      refine Z.iret (pc := 32) (ty := .int) dX9_odds_32 rfl rfl ?_
      exact km (S' := ((len, pg), (n, k, s, f, hr, fd, ho), (sz, sg, so, se), kept, (ihr, ik, js, ifd, iho, (isz, isg, iso, ise)), np)) (by rw [a_odds, q, q2]; rfl) hD f9_rf
    · have qt : inR t 0 10 = true := c18
      refine Z.iload_n (pc := 21) (i := 3) dX9_odds_21 rfl rfl ?_
      refine Z.iconst (pc := 22) (v := (0)) dX9_odds_22 (by decide) ?_
      refine Z.iconst (pc := 23) (v := (1)) dX9_odds_23 (by decide) ?_
      refine Z.callSi (pc := 24) dX9_odds_24 (c_X9_within _ _ _) zm_X9_50 zs_X9_within rfl rfl (by decide) (by decide) (Nat.le_of_ble_eq_true rfl) ?_
      refine Z.if_ne_b (pc := 27) (tgt := 33) dX9_odds_27 (by decide) (fun c27 => ?_) (fun c27 => ?_)
      · have q2 : (inR t 0 10 && inR w 0 1) = true := by rw [qt, show inR w 0 1 = true from c27]; rfl
        obtain ⟨v, hv, rfl⟩ := inR_of (b := 10) (by decide) qt
        have ev : (nI v).toNatClampNeg = v := nI_clamp (by omega)
        refine Z.aload_n (pc := 33) (i := 0) dX9_odds_33 rfl rfl ?_
        refine Z.getIv (pc := 34) dX9_odds_34 zf_X9_89 rfl rfl hG.2.1 ?_
        refine Z.iload_n (pc := 37) (i := 1) dX9_odds_37 rfl rfl ?_
        refine Z.callSi (pc := 38) dX9_odds_38 (c_X9_isIn hr j (by omega) (by omega)) zm_X9_105 zs_X9_isIn rfl rfl (by decide) (by decide) (Nat.le_of_ble_eq_true rfl) ?_
        refine Z.if_eq_b (pc := 41) (tgt := 54) dX9_odds_41 (by decide) (fun c41 => ?_) (fun c41 => ?_)
        · refine Z.bipush (pc := 54) (v := (-103)) dX9_odds_54 (by decide) ?_
          refine Z.iret (pc := 56) (ty := .int) dX9_odds_56 rfl rfl ?_
          refine km (S' := ((len, pg), (n, k, s, f, hr, fd, ho), (sz, sg, so, se), kept, (ihr, ik, js, ifd, iho, (isz, isg, iso, ise)), np)) ?_ hD f9_rf
          first | (rw [a_odds, q, q2, ej, ev, c41]; rfl) | (rw [a_odds, q, q2, ej, c41]; rfl)
        · refine Z.aload_n (pc := 44) (i := 0) dX9_odds_44 rfl rfl ?_
          refine Z.iload_n (pc := 45) (i := 1) dX9_odds_45 rfl rfl ?_
          refine Z.iload_n (pc := 46) (i := 2) dX9_odds_46 rfl rfl ?_
          refine Z.iload_n (pc := 47) (i := 3) dX9_odds_47 rfl rfl ?_
          refine Z.callVi (pc := 48) dX9_odds_48 (c_X9_oddsNow hM j hj c41 v hv w) zm_X9_201 zv_X9_oddsNow rfl rfl rfl rfl (by decide) (by decide) (Nat.le_of_ble_eq_true rfl) ?_
          refine Z.goto (pc := 51) (tgt := 56) dX9_odds_51 (by decide) ?_
          refine Z.iret (pc := 56) (ty := .int) dX9_odds_56 rfl rfl ?_
          refine km (S' := ((len, pg), (n, k, s, f, hr, fd, ho), (sz, sg, so, se), kept, (ihr, ik, js, ifd, iho, (isz, isg, iso, ise)), np)) ?_ hD f9_rf
          first | (rw [a_odds, q, q2, ej, ev, c41]; rfl) | (rw [a_odds, q, q2, ej, c41]; rfl)
      · have q2 : (inR t 0 10 && inR w 0 1) = false := by rw [show inR w 0 1 = false from c27]; simp
        refine Z.bipush (pc := 30) (v := (-102)) dX9_odds_30 (by decide) ?_
        refine Z.iret (pc := 32) (ty := .int) dX9_odds_32 rfl rfl ?_
        exact km (S' := ((len, pg), (n, k, s, f, hr, fd, ho), (sz, sg, so, se), kept, (ihr, ik, js, ifd, iho, (isz, isg, iso, ise)), np)) (by rw [a_odds, q, q2]; rfl) hD f9_rf
  · have q : gB n g = false := c5
    refine Z.bipush (pc := 8) (v := (-101)) dX9_odds_8 (by decide) ?_
    refine Z.iret (pc := 10) (ty := .int) dX9_odds_10 rfl rfl ?_
    exact km (S' := ((len, pg), (n, k, s, f, hr, fd, ho), (sz, sg, so, se), kept, (ihr, ik, js, ifd, iho, (isz, isg, iso, ise)), np)) (by simp [a_odds, q]) hD f9_rf
set_option maxRecDepth 100000 in
set_option maxHeartbeats 400000 in
theorem c_X9_see {h : hp} {len n hr fd ho sz ihr ifd iho isz np : Nat} {pg k s f sg so se ik js isg iso ise : zF} {kept : Bool} (hD : MS h ((len, pg), (n, k, s, f, hr, fd, ho), (sz, sg, so, se), kept, (ihr, ik, js, ifd, iho, (isz, isg, iso, ise)), np)) (hS : OkS ((len, pg), (n, k, s, f, hr, fd, ho), (sz, sg, so, se), kept, (ihr, ik, js, ifd, iho, (isz, isg, iso, ise)), np)) (g t : Int32) (b : Bool)  : Cn yX9_see cX9_see 4 (some .int) 2 [.ref 30, .int g, .int t, .int (zb b)] h (KM h (.int (a_see ((len, pg), (n, k, s, f, hr, fd, ho), (sz, sg, so, se), kept, (ihr, ik, js, ifd, iho, (isz, isg, iso, ise)), np) g t b).1) (a_see ((len, pg), (n, k, s, f, hr, fd, ho), (sz, sg, so, se), kept, (ihr, ik, js, ifd, iho, (isz, isg, iso, ise)), np) g t b).2) := by
  obtain ⟨hP, hG, hE, hK, hI, hX⟩ := id hD
  obtain ⟨⟨sp1, sp2⟩, ⟨sk, shl, sfd, sho, zk, zs, zf⟩, sE, sI⟩ := id hS
  have hM := hG.Mm shl sk
  have hn8 := sk.1
  have hp8 := p8 hn8
  refine Cn.of (by decide) (Nat.le_of_ble_eq_true rfl) ?_
  refine Z.eqL (lv' := [(0, .ref 30), (1, .int g), (2, .int t), (3, .int (zb b))]) rfl ?_
  refine Z.aload_n (pc := 0) (i := 0) dX9_see_0 rfl rfl ?_
  refine Z.iload_n (pc := 1) (i := 1) dX9_see_1 rfl rfl ?_
  refine Z.callVi (pc := 2) dX9_see_2 (c_X9_isGuest hM g) zm_X9_144 zv_X9_isGuest rfl rfl rfl rfl (by decide) (by decide) (Nat.le_of_ble_eq_true rfl) ?_
  refine Z.if_ne_b (pc := 5) (tgt := 11) dX9_see_5 (by decide) (fun c5 => ?_) (fun c5 => ?_)
  · have q : gB n g = true := c5
    obtain ⟨j, hj, rfl⟩ := gB_of q hn8
    have ej : (nI j).toNatClampNeg = j := nI_clamp (by omega)
    refine Z.iload_n (pc := 11) (i := 2) dX9_see_11 rfl rfl ?_
    refine Z.iconst (pc := 12) (v := (0)) dX9_see_12 (by decide) ?_
    refine Z.bipush (pc := 13) (v := (16)) dX9_see_13 (by decide) ?_
    refine Z.callSi (pc := 15) dX9_see_15 (c_X9_within _ _ _) zm_X9_50 zs_X9_within rfl rfl (by decide) (by decide) (Nat.le_of_ble_eq_true rfl) ?_
    refine Z.if_ne_b (pc := 18) (tgt := 24) dX9_see_18 (by decide) (fun c18 => ?_) (fun c18 => ?_)
    · refine Z.aload_n (pc := 24) (i := 0) dX9_see_24 rfl rfl ?_
      refine Z.getIv (pc := 25) dX9_see_25 zf_X9_98 rfl rfl hE.1 ?_
      refine Z.bipush (pc := 28) (v := (nI 6)) dX9_see_28 (by decide) ?_
      refine Z.icmp_ne (pc := 30) (tgt := 36) dX9_see_30 (by decide) (fun c30 => ?_) (fun c30 => ?_)
      · have q3 : ¬ sz = 6 := fun z => c30 (congrArg nI z)
        have q4 : sz < 6 := by have := sE.1; omega
        refine Z.aload_n (pc := 36) (i := 0) dX9_see_36 rfl rfl ?_
        refine Z.getR (pc := 37) dX9_see_37 zf_X9_19 rfl rfl ?_
        refine Z.aload_n (pc := 40) (i := 0) dX9_see_40 rfl rfl ?_
        refine Z.getIv (pc := 41) dX9_see_41 zf_X9_98 rfl rfl hE.1 ?_
        refine Z.iload_n (pc := 44) (i := 1) dX9_see_44 rfl rfl ?_
        refine Z.iast (pc := 45) dX9_see_45 rfl (by omega) (by decide) ?_
        refine Z.aload_n (pc := 46) (i := 0) dX9_see_46 rfl rfl ?_
        refine Z.getR (pc := 47) dX9_see_47 zf_X9_22 rfl rfl ?_
        refine Z.aload_n (pc := 50) (i := 0) dX9_see_50 rfl rfl ?_
        refine Z.getIv (pc := 51) dX9_see_51 zf_X9_98 rfl rfl (show _ = nI sz from hE.1) ?_
        refine Z.iload_n (pc := 54) (i := 2) dX9_see_54 rfl rfl ?_
        refine Z.iast (pc := 55) dX9_see_55 rfl (by omega) (by decide) ?_
        refine Z.aload_n (pc := 56) (i := 0) dX9_see_56 rfl rfl ?_
        refine Z.getR (pc := 57) dX9_see_57 zf_X9_25 rfl rfl ?_
        refine Z.aload_n (pc := 60) (i := 0) dX9_see_60 rfl rfl ?_
        refine Z.getIv (pc := 61) dX9_see_61 zf_X9_98 rfl rfl (show _ = nI sz from hE.1) ?_
        refine Z.iload_n (pc := 64) (i := 3) dX9_see_64 rfl rfl ?_
        refine Z.if_eq_b (pc := 65) (tgt := 72) dX9_see_65 (by decide) (fun c65 => ?_) (fun c65 => ?_)
        · obtain rfl : b = false := c65
          refine Z.iconst (pc := 72) (v := (0)) dX9_see_72 (by decide) ?_
          refine Z.iast (pc := 73) dX9_see_73 rfl (by omega) (by decide) ?_
          refine Z.aload_n (pc := 74) (i := 0) dX9_see_74 rfl rfl ?_
          refine Z.dup (pc := 75) dX9_see_75 rfl ?_
          refine Z.getIv (pc := 76) dX9_see_76 zf_X9_98 rfl rfl (show _ = nI sz from hE.1) ?_
          refine Z.iconst (pc := 79) (v := (1)) dX9_see_79 (by decide) ?_
          refine Z.iadd (pc := 80) dX9_see_80 ?_
          refine Z.top (nI_1 sz) ?_
          refine Z.putI (pc := 81) dX9_see_81 zp_X9_98 rfl rfl rfl rfl ?_
          refine Z.aload_n (pc := 84) (i := 0) dX9_see_84 rfl rfl ?_
          refine Z.getIv (pc := 85) dX9_see_85 zf_X9_98 rfl rfl (z_up_at _ _ _ _) ?_
          refine Z.iret (pc := 88) (ty := .int) dX9_see_88 rfl rfl ?_
          first | exact km (S' := ((len, pg), (n, k, s, f, hr, fd, ho), (sz + 1, upd sg sz (nI j), upd so sz t, upd se sz (zb false)), kept, (ihr, ik, js, ifd, iho, (isz, isg, iso, ise)), np)) (by simp [a_see, q, c18, q3]) ⟨hP.mv rfl rfl, hG.mv rfl rfl rfl rfl rfl rfl rfl, ⟨rfl, by show upd (h.1 34) sz _ = _; rw [hE.2.1], by show upd (h.1 35) sz _ = _; rw [hE.2.2.1], by show upd (h.1 36) sz (zb false) = _; rw [hE.2.2.2]⟩, hK.mv rfl rfl rfl, hI.mv rfl rfl rfl rfl rfl rfl rfl rfl rfl, hX.mv hX.1 rfl rfl rfl rfl rfl⟩ (by repeat (first | refine f9_up ?_ (by decide) | refine f9_row ?_ (by decide) | exact f9_rf)) | exact km (S' := ((len, pg), (n, k, s, f, hr, fd, ho), (sz + 1, upd sg sz (nI j), upd so sz t, upd se sz (zb true)), kept, (ihr, ik, js, ifd, iho, (isz, isg, iso, ise)), np)) (by simp [a_see, q, c18, q3]) ⟨hP.mv rfl rfl, hG.mv rfl rfl rfl rfl rfl rfl rfl, ⟨rfl, by show upd (h.1 34) sz _ = _; rw [hE.2.1], by show upd (h.1 35) sz _ = _; rw [hE.2.2.1], by show upd (h.1 36) sz (zb true) = _; rw [hE.2.2.2]⟩, hK.mv rfl rfl rfl, hI.mv rfl rfl rfl rfl rfl rfl rfl rfl rfl, hX.mv hX.1 rfl rfl rfl rfl rfl⟩ (by repeat (first | refine f9_up ?_ (by decide) | refine f9_row ?_ (by decide) | exact f9_rf))
        · obtain rfl : b = true := c65
          refine Z.iconst (pc := 68) (v := (1)) dX9_see_68 (by decide) ?_
          refine Z.goto (pc := 69) (tgt := 73) dX9_see_69 (by decide) ?_
          refine Z.iast (pc := 73) dX9_see_73 rfl (by omega) (by decide) ?_
          refine Z.aload_n (pc := 74) (i := 0) dX9_see_74 rfl rfl ?_
          refine Z.dup (pc := 75) dX9_see_75 rfl ?_
          refine Z.getIv (pc := 76) dX9_see_76 zf_X9_98 rfl rfl (show _ = nI sz from hE.1) ?_
          refine Z.iconst (pc := 79) (v := (1)) dX9_see_79 (by decide) ?_
          refine Z.iadd (pc := 80) dX9_see_80 ?_
          refine Z.top (nI_1 sz) ?_
          refine Z.putI (pc := 81) dX9_see_81 zp_X9_98 rfl rfl rfl rfl ?_
          refine Z.aload_n (pc := 84) (i := 0) dX9_see_84 rfl rfl ?_
          refine Z.getIv (pc := 85) dX9_see_85 zf_X9_98 rfl rfl (z_up_at _ _ _ _) ?_
          refine Z.iret (pc := 88) (ty := .int) dX9_see_88 rfl rfl ?_
          first | exact km (S' := ((len, pg), (n, k, s, f, hr, fd, ho), (sz + 1, upd sg sz (nI j), upd so sz t, upd se sz (zb false)), kept, (ihr, ik, js, ifd, iho, (isz, isg, iso, ise)), np)) (by simp [a_see, q, c18, q3]) ⟨hP.mv rfl rfl, hG.mv rfl rfl rfl rfl rfl rfl rfl, ⟨rfl, by show upd (h.1 34) sz _ = _; rw [hE.2.1], by show upd (h.1 35) sz _ = _; rw [hE.2.2.1], by show upd (h.1 36) sz (zb false) = _; rw [hE.2.2.2]⟩, hK.mv rfl rfl rfl, hI.mv rfl rfl rfl rfl rfl rfl rfl rfl rfl, hX.mv hX.1 rfl rfl rfl rfl rfl⟩ (by repeat (first | refine f9_up ?_ (by decide) | refine f9_row ?_ (by decide) | exact f9_rf)) | exact km (S' := ((len, pg), (n, k, s, f, hr, fd, ho), (sz + 1, upd sg sz (nI j), upd so sz t, upd se sz (zb true)), kept, (ihr, ik, js, ifd, iho, (isz, isg, iso, ise)), np)) (by simp [a_see, q, c18, q3]) ⟨hP.mv rfl rfl, hG.mv rfl rfl rfl rfl rfl rfl rfl, ⟨rfl, by show upd (h.1 34) sz _ = _; rw [hE.2.1], by show upd (h.1 35) sz _ = _; rw [hE.2.2.1], by show upd (h.1 36) sz (zb true) = _; rw [hE.2.2.2]⟩, hK.mv rfl rfl rfl, hI.mv rfl rfl rfl rfl rfl rfl rfl rfl rfl, hX.mv hX.1 rfl rfl rfl rfl rfl⟩ (by repeat (first | refine f9_up ?_ (by decide) | refine f9_row ?_ (by decide) | exact f9_rf))
      · have q3 : sz = 6 := (nI_eq (by have := sE.1; omega) (by decide)).mp c30
        refine Z.bipush (pc := 33) (v := (-104)) dX9_see_33 (by decide) ?_
        refine Z.iret (pc := 35) (ty := .int) dX9_see_35 rfl rfl ?_
        exact km (S' := ((len, pg), (n, k, s, f, hr, fd, ho), (sz, sg, so, se), kept, (ihr, ik, js, ifd, iho, (isz, isg, iso, ise)), np)) (by simp [a_see, q, c18, q3]) hD f9_rf
    · refine Z.bipush (pc := 21) (v := (-102)) dX9_see_21 (by decide) ?_
      refine Z.iret (pc := 23) (ty := .int) dX9_see_23 rfl rfl ?_
      exact km (S' := ((len, pg), (n, k, s, f, hr, fd, ho), (sz, sg, so, se), kept, (ihr, ik, js, ifd, iho, (isz, isg, iso, ise)), np)) (by simp [a_see, q, c18]) hD f9_rf
  · have q : gB n g = false := c5
    refine Z.bipush (pc := 8) (v := (-101)) dX9_see_8 (by decide) ?_
    refine Z.iret (pc := 10) (ty := .int) dX9_see_10 rfl rfl ?_
    exact km (S' := ((len, pg), (n, k, s, f, hr, fd, ho), (sz, sg, so, se), kept, (ihr, ik, js, ifd, iho, (isz, isg, iso, ise)), np)) (by simp [a_see, q]) hD f9_rf
set_option maxRecDepth 100000 in
set_option maxHeartbeats 400000 in
theorem c_X9_forget {h : hp} {len n hr fd ho sz ihr ifd iho isz np : Nat} {pg k s f sg so se ik js isg iso ise : zF} {kept : Bool} (hD : MS h ((len, pg), (n, k, s, f, hr, fd, ho), (sz, sg, so, se), kept, (ihr, ik, js, ifd, iho, (isz, isg, iso, ise)), np)) (hS : OkS ((len, pg), (n, k, s, f, hr, fd, ho), (sz, sg, so, se), kept, (ihr, ik, js, ifd, iho, (isz, isg, iso, ise)), np))  : Cn yX9_forget cX9_forget 2 (some .int) 0 [.ref 30] h (KM h (.int (a_forget ((len, pg), (n, k, s, f, hr, fd, ho), (sz, sg, so, se), kept, (ihr, ik, js, ifd, iho, (isz, isg, iso, ise)), np)).1) (a_forget ((len, pg), (n, k, s, f, hr, fd, ho), (sz, sg, so, se), kept, (ihr, ik, js, ifd, iho, (isz, isg, iso, ise)), np)).2) := by
  obtain ⟨hP, hG, hE, hK, hI, hX⟩ := id hD
  obtain ⟨⟨sp1, sp2⟩, ⟨sk, shl, sfd, sho, zk, zs, zf⟩, sE, sI⟩ := id hS
  have hM := hG.Mm shl sk
  have hn8 := sk.1
  have hp8 := p8 hn8
  refine Cn.of (by decide) (Nat.le_of_ble_eq_true rfl) ?_
  refine Z.eqL (lv' := [(0, .ref 30)]) rfl ?_
  refine Z.aload_n (pc := 0) (i := 0) dX9_forget_0 rfl rfl ?_
  refine Z.getIv (pc := 1) dX9_forget_1 zf_X9_98 rfl rfl hE.1 ?_
  refine Z.istore_n (pc := 4) (i := 1) dX9_forget_4 rfl (by decide) rfl ?_
  refine Z.aload_n (pc := 5) (i := 0) dX9_forget_5 rfl rfl ?_
  refine Z.iconst (pc := 6) (v := (0)) dX9_forget_6 (by decide) ?_
  refine Z.putI (pc := 7) dX9_forget_7 zp_X9_98 rfl rfl rfl rfl ?_
  refine Z.iload_n (pc := 10) (i := 1) dX9_forget_10 rfl rfl ?_
  refine Z.iret (pc := 11) (ty := .int) dX9_forget_11 rfl rfl ?_
  exact km (S' := ((len, pg), (n, k, s, f, hr, fd, ho), (0, sg, so, se), kept, (ihr, ik, js, ifd, iho, (isz, isg, iso, ise)), np)) (rfl) ⟨hP.mv rfl rfl, hG.mv rfl rfl rfl rfl rfl rfl rfl, ⟨rfl, hE.2⟩, hK.mv rfl rfl rfl, hI.mv rfl rfl rfl rfl rfl rfl rfl rfl rfl, hX.mv hX.1 rfl rfl rfl rfl rfl⟩ (by repeat (first | refine f9_up ?_ (by decide) | refine f9_row ?_ (by decide) | exact f9_rf))
set_option maxRecDepth 100000 in
set_option maxHeartbeats 400000 in
theorem c_X9_nights {h : hp} {len n hr fd ho sz ihr ifd iho isz np : Nat} {pg k s f sg so se ik js isg iso ise : zF} {kept : Bool} (hD : MS h ((len, pg), (n, k, s, f, hr, fd, ho), (sz, sg, so, se), kept, (ihr, ik, js, ifd, iho, (isz, isg, iso, ise)), np)) (hS : OkS ((len, pg), (n, k, s, f, hr, fd, ho), (sz, sg, so, se), kept, (ihr, ik, js, ifd, iho, (isz, isg, iso, ise)), np)) (t sd w : Int32)  : Cn yX9_nights cX9_nights 4 (some .int) 8 [.ref 30, .int t, .int sd, .int w] h (KM h (.int (a_nights ((len, pg), (n, k, s, f, hr, fd, ho), (sz, sg, so, se), kept, (ihr, ik, js, ifd, iho, (isz, isg, iso, ise)), np) t sd w).1) (a_nights ((len, pg), (n, k, s, f, hr, fd, ho), (sz, sg, so, se), kept, (ihr, ik, js, ifd, iho, (isz, isg, iso, ise)), np) t sd w).2) := by
  obtain ⟨hP, hG, hE, hK, hI, hX⟩ := id hD
  obtain ⟨⟨sp1, sp2⟩, ⟨sk, shl, sfd, sho, zk, zs, zf⟩, sE, sI⟩ := id hS
  have hM := hG.Mm shl sk
  have hn8 := sk.1
  have hp8 := p8 hn8
  refine Cn.of (by decide) (Nat.le_of_ble_eq_true rfl) ?_
  refine Z.eqL (lv' := [(0, .ref 30), (1, .int t), (2, .int sd), (3, .int w)]) rfl ?_
  refine Z.iload_n (pc := 0) (i := 1) dX9_nights_0 rfl rfl ?_
  refine Z.iconst (pc := 1) (v := (1)) dX9_nights_1 (by decide) ?_
  refine Z.bipush (pc := 2) (v := (60)) dX9_nights_2 (by decide) ?_
  refine Z.callSi (pc := 4) dX9_nights_4 (c_X9_within _ _ _) zm_X9_50 zs_X9_within rfl rfl (by decide) (by decide) (Nat.le_of_ble_eq_true rfl) ?_
  refine Z.if_eq_b (pc := 7) (tgt := 23) dX9_nights_7 (by decide) (fun c7 => ?_) (fun c7 => ?_)
  · have q : (inR t 1 60 && (decide (0 ≤ sd) && inR w 0 2)) = false := by rw [show inR t 1 60 = false from c7]; simp
    refine Z.bipush (pc := 23) (v := (-102)) dX9_nights_23 (by decide) ?_
    refine Z.iret (pc := 25) (ty := .int) dX9_nights_25 rfl rfl ?_
    exact km (S' := ((len, pg), (n, k, s, f, hr, fd, ho), (sz, sg, so, se), kept, (ihr, ik, js, ifd, iho, (isz, isg, iso, ise)), np)) (by rw [a_nights, q]; rfl) hD f9_rf
  · refine Z.iload_n (pc := 10) (i := 2) dX9_nights_10 rfl rfl ?_
    refine Z.if_lt (pc := 11) (tgt := 23) dX9_nights_11 (by decide) (fun c11 => ?_) (fun c11 => ?_)
    · have q : (inR t 1 60 && (decide (0 ≤ sd) && inR w 0 2)) = false := by rw [show decide (0 ≤ sd) = false from decide_eq_false (fun v => lt_nle c11 v)]; simp
      refine Z.bipush (pc := 23) (v := (-102)) dX9_nights_23 (by decide) ?_
      refine Z.iret (pc := 25) (ty := .int) dX9_nights_25 rfl rfl ?_
      exact km (S' := ((len, pg), (n, k, s, f, hr, fd, ho), (sz, sg, so, se), kept, (ihr, ik, js, ifd, iho, (isz, isg, iso, ise)), np)) (by rw [a_nights, q]; rfl) hD f9_rf
    · refine Z.iload_n (pc := 14) (i := 3) dX9_nights_14 rfl rfl ?_
      refine Z.iconst (pc := 15) (v := (0)) dX9_nights_15 (by decide) ?_
      refine Z.iconst (pc := 16) (v := (2)) dX9_nights_16 (by decide) ?_
      refine Z.callSi (pc := 17) dX9_nights_17 (c_X9_within _ _ _) zm_X9_50 zs_X9_within rfl rfl (by decide) (by decide) (Nat.le_of_ble_eq_true rfl) ?_
      refine Z.if_ne_b (pc := 20) (tgt := 26) dX9_nights_20 (by decide) (fun c20 => ?_) (fun c20 => ?_)
      · have q1 : inR t 1 60 = true := c7
        have q : (inR t 1 60 && (decide (0 ≤ sd) && inR w 0 2)) = true := by rw [q1, show decide (0 ≤ sd) = true from decide_eq_true (nlt c11), show inR w 0 2 = true from c20]; rfl
        obtain ⟨v, hv1, hv, rfl⟩ := inR_of1 (b := 60) (by decide) q1
        have ev : (nI v).toNatClampNeg = v := nI_clamp (by omega)
        obtain ⟨x, hx, rfl⟩ := nI_of c11
        have ex : (nI x).toNatClampNeg = x := nI_clamp hx
        refine Z.aload_n (pc := 26) (i := 0) dX9_nights_26 rfl rfl ?_
        refine Z.getIv (pc := 27) dX9_nights_27 zf_X9_83 rfl rfl hG.1 ?_
        refine Z.if_ne (pc := 30) (tgt := 38) dX9_nights_30 (by decide) (fun c30 => ?_) (fun c30 => ?_)
        · have n0 : ¬ n = 0 := fun z => c30 (by rw [z]; rfl)
          refine Z.aload_n (pc := 38) (i := 0) dX9_nights_38 rfl rfl ?_
          refine Z.iload_n (pc := 39) (i := 1) dX9_nights_39 rfl rfl ?_
          refine Z.iload_n (pc := 40) (i := 2) dX9_nights_40 rfl rfl ?_
          refine Z.iload_n (pc := 41) (i := 3) dX9_nights_41 rfl rfl ?_
          refine Z.callV (pc := 42) dX9_nights_42 (c_X9_nightsNow hM hG.2.2.1 sfd zs hX.1 (by omega) v x (by omega) hx w) zm_X9_226 zv_X9_nightsNow rfl rfl rfl rfl (by decide) (by decide) (Nat.le_of_ble_eq_true rfl) (fun r42 h42 k42 => ?_)
          obtain ⟨e, hO⟩ := k42
          subst e
          obtain ⟨g1, g2⟩ := MS_OX hD hO.X
          refine Z.iret (pc := 45) (ty := .int) dX9_nights_45 rfl rfl ?_
          first
            | exact km (S' := ((len, pg), (n, k, s, f, hr, fd, ho), (sz, sg, so, se), kept, (ihr, ik, js, ifd, iho, (isz, isg, iso, ise)), np)) (by simp [a_nights, q, n0]) hD f9_rf
            | exact km (S' := ((len, pg), (n, k, s, f, hr, fd, ho), (sz, sg, so, se), kept, (ihr, ik, js, ifd, iho, (isz, isg, iso, ise)), np)) (by rw [a_nights, q, if_neg (by decide), if_neg n0, ev, ex]; rfl) g1 g2
        · have n0 : n = 0 := (nI_0' (by omega)).mp c30
          refine Z.bipush (pc := 33) (v := (-103)) dX9_nights_33 (by decide) ?_
          refine Z.goto (pc := 35) (tgt := 45) dX9_nights_35 (by decide) ?_
          refine Z.iret (pc := 45) (ty := .int) dX9_nights_45 rfl rfl ?_
          first
            | exact km (S' := ((len, pg), (n, k, s, f, hr, fd, ho), (sz, sg, so, se), kept, (ihr, ik, js, ifd, iho, (isz, isg, iso, ise)), np)) (by simp [a_nights, q, n0]) hD f9_rf
            | exact km (S' := ((len, pg), (n, k, s, f, hr, fd, ho), (sz, sg, so, se), kept, (ihr, ik, js, ifd, iho, (isz, isg, iso, ise)), np)) (by rw [a_nights, q, if_neg (by decide), if_neg n0, ev, ex]; rfl) g1 g2
      · have q : (inR t 1 60 && (decide (0 ≤ sd) && inR w 0 2)) = false := by rw [show inR w 0 2 = false from c20]; simp
        refine Z.bipush (pc := 23) (v := (-102)) dX9_nights_23 (by decide) ?_
        refine Z.iret (pc := 25) (ty := .int) dX9_nights_25 rfl rfl ?_
        exact km (S' := ((len, pg), (n, k, s, f, hr, fd, ho), (sz, sg, so, se), kept, (ihr, ik, js, ifd, iho, (isz, isg, iso, ise)), np)) (by rw [a_nights, q]; rfl) hD f9_rf
