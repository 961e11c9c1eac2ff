set_option maxRecDepth 100000 in
set_option maxHeartbeats 400000 in
theorem l_X8_tryNights {h : hp} {n : Nat} {k f : zF} {X : zF × Nat × Nat × Nat} {K : Option Value → hp → Prop} {u : Int32} (n1 : 0 < n) (t : Nat) (ht : t < 2 ^ 31) (hK : ∀ hh, TN h n k f hh X → K none hh) : ∀ (r i : Nat) (hh : hp) (s' : zF) (a b sd : Nat), i + r = t → TN h n k f hh (s', a, b, sd) → itS (ntSt k f n) r (s', a, b, sd) = X → Z yX8_tryNights cX8_tryNights 5 none 5 (K) 21 [(0, .ref 0), (1, .int (nI t)), (2, .int u), (3, .int (nI i))] [] hh := by
  intro r
  induction r with
  | zero =>
    intro i hh s' a b sd hi hT hX
    obtain rfl : t = i := by omega
    refine Z.iload_n (pc := 21) (i := 3) dX8_tryNights_21 rfl rfl ?_
    refine Z.iload_n (pc := 22) (i := 1) dX8_tryNights_22 rfl rfl ?_
    refine Z.icmp_ge_t (pc := 23) (tgt := 91) dX8_tryNights_23 (by decide) (nI_le (Nat.le_refl _) ht) ?_
    refine Z.vret (pc := 91) dX8_tryNights_91 rfl ?_
    exact hK hh (hX ▸ hT)
  | succ r ih =>
    intro i hh s' a b sd hi hT hX
    refine Z.iload_n (pc := 21) (i := 3) dX8_tryNights_21 rfl rfl ?_
    refine Z.iload_n (pc := 22) (i := 1) dX8_tryNights_22 rfl rfl ?_
    refine Z.icmp_ge_f (pc := 23) (tgt := 91) dX8_tryNights_23 (by decide) (nI_ge (by omega) ht) ?_
    refine Z.aload_n (pc := 26) (i := 0) dX8_tryNights_26 rfl rfl ?_
    refine Z.getR (pc := 27) dX8_tryNights_27 zf_X8_63 rfl rfl ?_
    refine Z.iconst (pc := 30) (v := (nI 3)) dX8_tryNights_30 (by decide) ?_
    refine Z.callVi (pc := 31) dX8_tryNights_31 (c_X1_next sd 3 hT.2.2.2.2.1 hT.2.2.2.2.2.1 (by decide) (by decide)) zm_X8_259 zv_X1_next rfl rfl rfl rfl (by decide) (by decide) (Nat.le_of_ble_eq_true rfl) ?_
    have hT1 := TN_sd hT
    have hn8 := hT1.1.2.2.2.1.1
    refine Z.if_ne (pc := 34) (tgt := 77) dX8_tryNights_34 (by decide) (fun c34 => ?_) (fun c34 => ?_)
    · have q : ¬ sdN sd / 65536 % 3 = 0 := fun z => c34 (by rw [z]; rfl)
      refine Z.aload_n (pc := 77) (i := 0) dX8_tryNights_77 rfl rfl ?_
      refine Z.getR (pc := 78) dX8_tryNights_78 zf_X8_36 rfl rfl ?_
      refine Z.callVi (pc := 81) dX8_tryNights_81 (c_X6_letHourPass (o := 19) (Or.inr (Or.inr rfl)) hT1.1 hT1.2.1 hT1.2.2.1) zm_X8_146 zv_X6_letHourPass rfl rfl rfl rfl (by decide) (by decide) (Nat.le_of_ble_eq_true rfl) ?_
      have hTn := TN_hr hT1
      have hXn := it_s hX (nt_A q)
      refine Z.pop (pc := 84) dX8_tryNights_84 rfl ?_
      refine Z.iinc (pc := 85) (i := 3) (v := (nI (i + 1))) dX8_tryNights_85 rfl (by exact ii_1 i) (by decide) rfl ?_
      refine Z.goto (pc := 88) (tgt := 21) dX8_tryNights_88 (by decide) ?_
      refine Z.drop 4 ?_
      exact ih (i + 1) _ _ _ _ _ (by omega) hTn hXn
    · have q : sdN sd / 65536 % 3 = 0 := (nI_0' (Nat.lt_of_lt_of_le (Nat.mod_lt _ (by decide)) (by decide))).mp c34
      refine Z.aload_n (pc := 37) (i := 0) dX8_tryNights_37 rfl rfl ?_
      refine Z.getR (pc := 38) dX8_tryNights_38 zf_X8_63 rfl rfl ?_
      refine Z.aload_n (pc := 41) (i := 0) dX8_tryNights_41 rfl rfl ?_
      refine Z.getR (pc := 42) dX8_tryNights_42 zf_X8_36 rfl rfl ?_
      refine Z.getIv (pc := 45) dX8_tryNights_45 zf_X8_98 rfl rfl hT1.1.1 ?_
      refine Z.callVi (pc := 48) dX8_tryNights_48 (c_X1_next (sdN sd) n hT1.2.2.2.2.1 hT1.2.2.2.2.2.1 n1 (by omega)) zm_X8_259 zv_X1_next rfl rfl rfl rfl (by decide) (by decide) (Nat.le_of_ble_eq_true rfl) ?_
      have hT2 := TN_sd hT1
      have hgn : (sdN (sdN sd) / 65536 % n) < n := Nat.mod_lt _ n1
      refine Z.istore (pc := 51) (i := 4) dX8_tryNights_51 (by decide) rfl ?_
      refine Z.aload_n (pc := 53) (i := 0) dX8_tryNights_53 rfl rfl ?_
      refine Z.getR (pc := 54) dX8_tryNights_54 zf_X8_36 rfl rfl ?_
      refine Z.iload (pc := 57) (i := 4) dX8_tryNights_57 rfl ?_
      refine Z.callVi (pc := 59) dX8_tryNights_59 (c_X6_isHere (o := 19) (Or.inr (Or.inr rfl)) hT2.1 _ (by omega)) zm_X8_149 zv_X6_isHere rfl rfl rfl rfl (by decide) (by decide) (Nat.le_of_ble_eq_true rfl) ?_
      refine Z.if_eq_b (pc := 62) (tgt := 74) dX8_tryNights_62 (by decide) (fun c62 => ?_) (fun c62 => ?_)
      · have hTn := hT2
        have hXn := it_s hX (nt_C q c62)
        refine Z.goto (pc := 74) (tgt := 85) dX8_tryNights_74 (by decide) ?_
        refine Z.iinc (pc := 85) (i := 3) (v := (nI (i + 1))) dX8_tryNights_85 rfl (by exact ii_1 i) (by decide) rfl ?_
        refine Z.goto (pc := 88) (tgt := 21) dX8_tryNights_88 (by decide) ?_
        refine Z.drop 4 ?_
        exact ih (i + 1) _ _ _ _ _ (by omega) hTn hXn
      · refine Z.aload_n (pc := 65) (i := 0) dX8_tryNights_65 rfl rfl ?_
        refine Z.getR (pc := 66) dX8_tryNights_66 zf_X8_36 rfl rfl ?_
        refine Z.iload (pc := 69) (i := 4) dX8_tryNights_69 rfl ?_
        refine Z.callVv (pc := 71) dX8_tryNights_71 (c_X6_makeLessShy (o := 19) (Or.inr (Or.inr rfl)) hT2.1 _ hgn) zm_X8_152 zv_X6_makeLessShy rfl rfl rfl rfl (by decide) (by decide) (Nat.le_of_ble_eq_true rfl) ?_
        have hTn := TN_hint hgn hT2
        have hXn := it_s hX (nt_B q c62)
        refine Z.goto (pc := 74) (tgt := 85) dX8_tryNights_74 (by decide) ?_
        refine Z.iinc (pc := 85) (i := 3) (v := (nI (i + 1))) dX8_tryNights_85 rfl (by exact ii_1 i) (by decide) rfl ?_
        refine Z.goto (pc := 88) (tgt := 21) dX8_tryNights_88 (by decide) ?_
        refine Z.drop 4 ?_
        exact ih (i + 1) _ _ _ _ _ (by omega) hTn hXn
set_option maxRecDepth 100000 in
set_option maxHeartbeats 400000 in
theorem c_X8_tryNights {h : hp} {n hr fd : Nat} {k s f : zF} (hR : Rm h 3 n hr k s f) (hfd : h.1 3 5 = nI fd) (sfd : fd ≤ 99) (zs : dZ8 s) (n1 : 0 < n) (z1 : va_cpy (h.1 4) (h.1 20) 0 0 8 = h.1 4) (z2 : va_cpy (h.1 5) (h.1 21) 0 0 8 = h.1 5) (z3 : va_cpy (h.1 6) (h.1 22) 0 0 8 = h.1 6) (t sd : Nat) (ht : t < 2 ^ 31) (hsd : sd < 2 ^ 31)  : Cn yX8_tryNights cX8_tryNights 5 none 5 [.ref 0, .int (nI t), .int (nI sd)] h (fun r hh => r = none ∧ TN h n k f hh (ntN k s f n hr fd t sd)) := by
  refine Cn.of (by decide) (Nat.le_of_ble_eq_true rfl) ?_
  refine Z.eqL (lv' := [(0, .ref 0), (1, .int (nI t)), (2, .int (nI sd))]) rfl ?_
  refine Z.aload_n (pc := 0) (i := 0) dX8_tryNights_0 rfl rfl ?_
  refine Z.getR (pc := 1) dX8_tryNights_1 zf_X8_36 rfl rfl ?_
  refine Z.aload_n (pc := 4) (i := 0) dX8_tryNights_4 rfl rfl ?_
  refine Z.getR (pc := 5) dX8_tryNights_5 zf_X8_19 rfl rfl ?_
  refine Z.callVv (pc := 8) dX8_tryNights_8 (c_X6_copyFrom_19_3 z1 z2 z3) zm_X8_172 zv_X6_copyFrom rfl rfl rfl rfl (by decide) (by decide) (Nat.le_of_ble_eq_true rfl) ?_
  refine Z.aload_n (pc := 11) (i := 0) dX8_tryNights_11 rfl rfl ?_
  refine Z.getR (pc := 12) dX8_tryNights_12 zf_X8_63 rfl rfl ?_
  refine Z.iload_n (pc := 15) (i := 2) dX8_tryNights_15 rfl rfl ?_
  refine Z.putI (pc := 16) dX8_tryNights_16 zp_X8_198 rfl rfl rfl rfl ?_
  refine Z.iconst (pc := 19) (v := (nI 0)) dX8_tryNights_19 (by decide) ?_
  refine Z.istore_n (pc := 20) (i := 3) dX8_tryNights_20 rfl (by decide) rfl ?_
  exact l_X8_tryNights n1 t ht (fun hh hT => ⟨rfl, hT⟩) t 0 _ s hr fd sd (by omega) (TN_0 hR hfd sfd zs hsd) rfl
set_option maxRecDepth 100000 in
set_option maxHeartbeats 400000 in
theorem c_X8_nights {h : hp} {len n hr fd ho sz ihr ifd iho isz np : Nat} {pg k s f sg so se ik js isg iso ise : zF} {kept : Bool} (hD : D h ((len, pg), (n, k, s, f, hr, fd, ho), (sz, sg, so, se), kept, (ihr, ik, js, ifd, iho, (isz, isg, iso, ise)), np)) (hS : OkS ((len, pg), (n, k, s, f, hr, fd, ho), (sz, sg, so, se), kept, (ihr, ik, js, ifd, iho, (isz, isg, iso, ise)), np)) (t sd w : Int32)  : Cn yX8_nights cX8_nights 4 (some .int) 6 [.ref 0, .int t, .int sd, .int w] h (KD h (.int (a_nights ((len, pg), (n, k, s, f, hr, fd, ho), (sz, sg, so, se), kept, (ihr, ik, js, ifd, iho, (isz, isg, iso, ise)), np) t sd w).1) (a_nights ((len, pg), (n, k, s, f, hr, fd, ho), (sz, sg, so, se), kept, (ihr, ik, js, ifd, iho, (isz, isg, iso, ise)), np) t sd w).2) := by
  obtain ⟨hP, hG, hE, hK, hI, hX⟩ := id hD
  obtain ⟨⟨sp1, sp2⟩, ⟨sk, shl, sfd, sho, zk, zs, zf⟩, sE, sI⟩ := id hS
  have hR := hG.Rm shl sk
  have hn8 := sk.1
  have hp8 := p8 hn8
  have z1 : va_cpy (h.1 4) (h.1 20) 0 0 8 = h.1 4 := cpy8 (by rw [hG.2.2.2.2.1]; exact zk) hX.2.2.2.2.1
  have z2 : va_cpy (h.1 5) (h.1 21) 0 0 8 = h.1 5 := cpy8 (by rw [hG.2.2.2.2.2.1]; exact zs) hX.2.2.2.2.2.1
  have z3 : va_cpy (h.1 6) (h.1 22) 0 0 8 = h.1 6 := cpy8 (by rw [hG.2.2.2.2.2.2]; exact zf) hX.2.2.2.2.2.2.1
  refine Cn.of (by decide) (Nat.le_of_ble_eq_true rfl) ?_
  refine Z.eqL (lv' := [(0, .ref 0), (1, .int t), (2, .int sd), (3, .int w)]) rfl ?_
  refine Z.iload_n (pc := 0) (i := 1) dX8_nights_0 rfl rfl ?_
  refine Z.iconst (pc := 1) (v := (1)) dX8_nights_1 (by decide) ?_
  refine Z.icmp_lt (pc := 2) (tgt := 24) dX8_nights_2 (by decide) (fun c2 => ?_) (fun c2 => ?_)
  · have q : (inR t 1 60 && (decide (0 ≤ sd) && inR w 0 2)) = false := by rw [show inR t 1 60 = false from decide_eq_false (fun v => lt_nle c2 v.1)]; simp
    refine Z.bipush (pc := 24) (v := (-102)) dX8_nights_24 (by decide) ?_
    refine Z.iret (pc := 26) (ty := .int) dX8_nights_26 rfl rfl ?_
    exact kd (S' := ((len, pg), (n, k, s, f, hr, fd, ho), (sz, sg, so, se), kept, (ihr, ik, js, ifd, iho, (isz, isg, iso, ise)), np)) (by rw [a_nights, q]; rfl) hD fr_rf
  · refine Z.iload_n (pc := 5) (i := 1) dX8_nights_5 rfl rfl ?_
    refine Z.bipush (pc := 6) (v := (60)) dX8_nights_6 (by decide) ?_
    refine Z.icmp_gt (pc := 8) (tgt := 24) dX8_nights_8 (by decide) (fun c8 => ?_) (fun c8 => ?_)
    · have q : (inR t 1 60 && (decide (0 ≤ sd) && inR w 0 2)) = false := by rw [show inR t 1 60 = false from decide_eq_false (fun v => lt_nle c8 v.2)]; simp
      refine Z.bipush (pc := 24) (v := (-102)) dX8_nights_24 (by decide) ?_
      refine Z.iret (pc := 26) (ty := .int) dX8_nights_26 rfl rfl ?_
      exact kd (S' := ((len, pg), (n, k, s, f, hr, fd, ho), (sz, sg, so, se), kept, (ihr, ik, js, ifd, iho, (isz, isg, iso, ise)), np)) (by rw [a_nights, q]; rfl) hD fr_rf
    · refine Z.iload_n (pc := 11) (i := 2) dX8_nights_11 rfl rfl ?_
      refine Z.if_lt (pc := 12) (tgt := 24) dX8_nights_12 (by decide) (fun c12 => ?_) (fun c12 => ?_)
      · have q : (inR t 1 60 && (decide (0 ≤ sd) && inR w 0 2)) = false := by rw [show decide (0 ≤ sd) = false from decide_eq_false (fun v => lt_nle c12 v)]; simp
        refine Z.bipush (pc := 24) (v := (-102)) dX8_nights_24 (by decide) ?_
        refine Z.iret (pc := 26) (ty := .int) dX8_nights_26 rfl rfl ?_
        exact kd (S' := ((len, pg), (n, k, s, f, hr, fd, ho), (sz, sg, so, se), kept, (ihr, ik, js, ifd, iho, (isz, isg, iso, ise)), np)) (by rw [a_nights, q]; rfl) hD fr_rf
      · refine Z.iload_n (pc := 15) (i := 3) dX8_nights_15 rfl rfl ?_
        refine Z.if_lt (pc := 16) (tgt := 24) dX8_nights_16 (by decide) (fun c16 => ?_) (fun c16 => ?_)
        · have q : (inR t 1 60 && (decide (0 ≤ sd) && inR w 0 2)) = false := by rw [show inR w 0 2 = false from decide_eq_false (fun v => lt_nle c16 v.1)]; simp
          refine Z.bipush (pc := 24) (v := (-102)) dX8_nights_24 (by decide) ?_
          refine Z.iret (pc := 26) (ty := .int) dX8_nights_26 rfl rfl ?_
          exact kd (S' := ((len, pg), (n, k, s, f, hr, fd, ho), (sz, sg, so, se), kept, (ihr, ik, js, ifd, iho, (isz, isg, iso, ise)), np)) (by rw [a_nights, q]; rfl) hD fr_rf
        · refine Z.iload_n (pc := 19) (i := 3) dX8_nights_19 rfl rfl ?_
          refine Z.iconst (pc := 20) (v := (2)) dX8_nights_20 (by decide) ?_
          refine Z.icmp_le (pc := 21) (tgt := 27) dX8_nights_21 (by decide) (fun c21 => ?_) (fun c21 => ?_)
          · have q1 : inR t 1 60 = true := decide_eq_true ⟨nlt c2, nlt c8⟩
            have q : (inR t 1 60 && (decide (0 ≤ sd) && inR w 0 2)) = true := by rw [q1, show decide (0 ≤ sd) = true from decide_eq_true (nlt c12), show inR w 0 2 = true from decide_eq_true ⟨nlt c16, c21⟩]; rfl
            obtain ⟨v, hv1, hv, rfl⟩ := inR_of1 (b := 60) (by decide) q1
            have ev : (nI v).toNatClampNeg = v := nI_clamp (by omega)
            obtain ⟨x, hx, rfl⟩ := nI_of c12
            have ex : (nI x).toNatClampNeg = x := nI_clamp hx
            refine Z.aload_n (pc := 27) (i := 0) dX8_nights_27 rfl rfl ?_
            refine Z.callVi (pc := 28) dX8_nights_28 (c_X8_hasParty hG.1 hn8) zm_X8_140 zv_X8_hasParty rfl rfl rfl rfl (by decide) (by decide) (Nat.le_of_ble_eq_true rfl) ?_
            refine Z.if_ne_b (pc := 31) (tgt := 37) dX8_nights_31 (by decide) (fun c31 => ?_) (fun c31 => ?_)
            · have n0 : ¬ n = 0 := by have := of_decide_eq_true c31; omega
              refine Z.aload_n (pc := 37) (i := 0) dX8_nights_37 rfl rfl ?_
              refine Z.iload_n (pc := 38) (i := 1) dX8_nights_38 rfl rfl ?_
              refine Z.iload_n (pc := 39) (i := 2) dX8_nights_39 rfl rfl ?_
              refine Z.callV (pc := 40) dX8_nights_40 (c_X8_tryNights hR hG.2.2.1 sfd zs (by omega) z1 z2 z3 v x (by omega) hx) zm_X8_191 zv_X8_tryNights rfl rfl rfl rfl (by decide) (by decide) (Nat.le_of_ble_eq_true rfl) (fun r40 h40 k40 => ?_)
              obtain ⟨rfl, hT⟩ := k40
              obtain ⟨g1, g2⟩ := TN_D hD zk zf hT
              have hl2 := hT.1.2.2.1
              refine Z.iload_n (pc := 43) (i := 3) dX8_nights_43 rfl rfl ?_
              refine Z.if_ne (pc := 44) (tgt := 58) dX8_nights_44 (by decide) (fun c44 => ?_) (fun c44 => ?_)
              · refine Z.iload_n (pc := 58) (i := 3) dX8_nights_58 rfl rfl ?_
                refine Z.iconst (pc := 59) (v := (1)) dX8_nights_59 (by decide) ?_
                refine Z.icmp_ne (pc := 60) (tgt := 73) dX8_nights_60 (by decide) (fun c60 => ?_) (fun c60 => ?_)
                · refine Z.aload_n (pc := 73) (i := 0) dX8_nights_73 rfl rfl ?_
                  refine Z.getR (pc := 74) dX8_nights_74 zf_X8_63 rfl rfl ?_
                  refine Z.getIv (pc := 77) dX8_nights_77 zf_X8_198 rfl rfl hT.2.2.2.2.1 ?_
                  refine Z.iret (pc := 80) (ty := .int) dX8_nights_80 rfl rfl ?_
                  refine kd (S' := ((len, pg), (n, k, s, f, hr, fd, ho), (sz, sg, so, se), kept, (ihr, ik, js, ifd, iho, (isz, isg, iso, ise)), np)) ?_ g1 g2
                  simp only [a_nights, ev, ex]
                  first | rw [if_neg (by rw [q]; decide), if_neg n0, if_neg c44, if_pos c60] | rw [if_neg (by rw [q]; decide), if_neg n0, if_neg c44, if_neg c60]
                · refine Z.aload_n (pc := 63) (i := 0) dX8_nights_63 rfl rfl ?_
                  refine Z.getR (pc := 64) dX8_nights_64 zf_X8_36 rfl rfl ?_
                  refine Z.getIv (pc := 67) dX8_nights_67 zf_X8_159 rfl rfl hT.2.1 ?_
                  refine Z.goto (pc := 70) (tgt := 80) dX8_nights_70 (by decide) ?_
                  refine Z.iret (pc := 80) (ty := .int) dX8_nights_80 rfl rfl ?_
                  refine kd (S' := ((len, pg), (n, k, s, f, hr, fd, ho), (sz, sg, so, se), kept, (ihr, ik, js, ifd, iho, (isz, isg, iso, ise)), np)) ?_ g1 g2
                  simp only [a_nights, ev, ex]
                  first | rw [if_neg (by rw [q]; decide), if_neg n0, if_neg c44, if_pos c60] | rw [if_neg (by rw [q]; decide), if_neg n0, if_neg c44, if_neg c60]
              · refine Z.aload_n (pc := 47) (i := 0) dX8_nights_47 rfl rfl ?_
                refine Z.getR (pc := 48) dX8_nights_48 zf_X8_36 rfl rfl ?_
                refine Z.callVi (pc := 51) dX8_nights_51 (c_X6_gone (o := 19) (Or.inr (Or.inr rfl)) hT.1) zm_X8_195 zv_X6_gone rfl rfl rfl rfl (by decide) (by decide) (Nat.le_of_ble_eq_true rfl) ?_
                refine Z.callSi (pc := 54) dX8_nights_54 (c_J6_bitCount_0f7a4 _ (Nat.lt_of_lt_of_le (gon_lt n _) (by omega))) zm_X8_135 zs_J6_bitCount_0f7a4 rfl rfl (by decide) (by decide) (Nat.le_of_ble_eq_true rfl) ?_
                refine Z.iret (pc := 57) (ty := .int) dX8_nights_57 rfl rfl ?_
                refine kd (S' := ((len, pg), (n, k, s, f, hr, fd, ho), (sz, sg, so, se), kept, (ihr, ik, js, ifd, iho, (isz, isg, iso, ise)), np)) ?_ g1 g2
                simp only [a_nights, ev, ex]
                rw [if_neg (by rw [q]; decide), if_neg n0, if_pos c44]
            · have n0 : n = 0 := by have := of_decide_eq_false c31; omega
              refine Z.bipush (pc := 34) (v := (-103)) dX8_nights_34 (by decide) ?_
              refine Z.iret (pc := 36) (ty := .int) dX8_nights_36 rfl rfl ?_
              exact kd (S' := ((len, pg), (n, k, s, f, hr, fd, ho), (sz, sg, so, se), kept, (ihr, ik, js, ifd, iho, (isz, isg, iso, ise)), np)) (by simp only [a_nights, q, n0]; rfl) hD fr_rf
          · have q : (inR t 1 60 && (decide (0 ≤ sd) && inR w 0 2)) = false := by rw [show inR w 0 2 = false from decide_eq_false (fun v => c21 v.2)]; simp
            refine Z.bipush (pc := 24) (v := (-102)) dX8_nights_24 (by decide) ?_
            refine Z.iret (pc := 26) (ty := .int) dX8_nights_26 rfl rfl ?_
            exact kd (S' := ((len, pg), (n, k, s, f, hr, fd, ho), (sz, sg, so, se), kept, (ihr, ik, js, ifd, iho, (isz, isg, iso, ise)), np)) (by rw [a_nights, q]; rfl) hD fr_rf
set_option maxRecDepth 100000 in
set_option maxHeartbeats 400000 in
theorem c_X8_image {h : hp} {len n hr fd ho sz ihr ifd iho isz np : Nat} {pg k s f sg so se ik js isg iso ise : zF} {kept : Bool} (hD : D h ((len, pg), (n, k, s, f, hr, fd, ho), (sz, sg, so, se), kept, (ihr, ik, js, ifd, iho, (isz, isg, iso, ise)), np)) (hS : OkS ((len, pg), (n, k, s, f, hr, fd, ho), (sz, sg, so, se), kept, (ihr, ik, js, ifd, iho, (isz, isg, iso, ise)), np))  : Cn yX8_image cX8_image 1 (some .int) 2 [.ref 0] h (KD h (.int (a_image ((len, pg), (n, k, s, f, hr, fd, ho), (sz, sg, so, se), kept, (ihr, ik, js, ifd, iho, (isz, isg, iso, ise)), np)).1) (a_image ((len, pg), (n, k, s, f, hr, fd, ho), (sz, sg, so, se), kept, (ihr, ik, js, ifd, iho, (isz, isg, iso, ise)), np)).2) := by
  obtain ⟨hP, hG, hE, hK, hI, hX⟩ := id hD
  obtain ⟨⟨sp1, sp2⟩, ⟨sk, shl, sfd, sho, zk, zs, zf⟩, sE, sI⟩ := id hS
  have hR := hG.Rm shl sk
  have hn8 := sk.1
  have hp8 := p8 hn8
  have y1 : va_cpy (h.1 4) (h.1 12) 0 0 8 = h.1 4 := cpy8 (by rw [hG.2.2.2.2.1]; exact zk) hX.2.1
  have y2 : va_cpy (h.1 5) (h.1 13) 0 0 8 = h.1 5 := cpy8 (by rw [hG.2.2.2.2.2.1]; exact zs) hX.2.2.1
  have y3 : va_cpy (h.1 6) (h.1 14) 0 0 8 = h.1 6 := cpy8 (by rw [hG.2.2.2.2.2.2]; exact zf) hX.2.2.2.1
  refine Cn.of (by decide) (Nat.le_of_ble_eq_true rfl) ?_
  refine Z.eqL (lv' := [(0, .ref 0)]) rfl ?_
  refine Z.aload_n (pc := 0) (i := 0) dX8_image_0 rfl rfl ?_
  refine Z.callVi (pc := 1) dX8_image_1 (c_X8_hasParty hG.1 hn8) zm_X8_140 zv_X8_hasParty rfl rfl rfl rfl (by decide) (by decide) (Nat.le_of_ble_eq_true rfl) ?_
  refine Z.if_ne_b (pc := 4) (tgt := 10) dX8_image_4 (by decide) (fun c4 => ?_) (fun c4 => ?_)
  · have n0 : ¬ n = 0 := by have := of_decide_eq_true c4; omega
    refine Z.aload_n (pc := 10) (i := 0) dX8_image_10 rfl rfl ?_
    refine Z.getR (pc := 11) dX8_image_11 zf_X8_30 rfl rfl ?_
    refine Z.aload_n (pc := 14) (i := 0) dX8_image_14 rfl rfl ?_
    refine Z.getR (pc := 15) dX8_image_15 zf_X8_19 rfl rfl ?_
    refine Z.callVv (pc := 18) dX8_image_18 (c_X6_copyFrom_11_3 y1 y2 y3) zm_X8_172 zv_X6_copyFrom rfl rfl rfl rfl (by decide) (by decide) (Nat.le_of_ble_eq_true rfl) ?_
    refine Z.aload_n (pc := 21) (i := 0) dX8_image_21 rfl rfl ?_
    refine Z.getR (pc := 22) dX8_image_22 zf_X8_33 rfl rfl ?_
    refine Z.aload_n (pc := 25) (i := 0) dX8_image_25 rfl rfl ?_
    refine Z.getR (pc := 26) dX8_image_26 zf_X8_26 rfl rfl ?_
    refine Z.callVv (pc := 29) dX8_image_29 (c_X7_copyFrom_15_7 (fun i _ => by show vp_nar .boolean (h.1 10 i) = h.1 10 i; rw [hE.2.2.2]; exact nar01 (sE.2.2.2.2 i))) zm_X8_201 zv_X7_copyFrom rfl rfl rfl rfl (by decide) (by decide) (Nat.le_of_ble_eq_true rfl) ?_
    refine Z.aload_n (pc := 32) (i := 0) dX8_image_32 rfl rfl ?_
    refine Z.iconst (pc := 33) (v := (1)) dX8_image_33 (by decide) ?_
    refine Z.putI (pc := 34) dX8_image_34 zp_X8_91 rfl rfl rfl rfl ?_
    refine Z.aload_n (pc := 37) (i := 0) dX8_image_37 rfl rfl ?_
    refine Z.getR (pc := 38) dX8_image_38 zf_X8_19 rfl rfl ?_
    refine Z.getIv (pc := 41) dX8_image_41 zf_X8_143 rfl rfl (show _ = nI ho from hG.2.2.2.1) ?_
    refine Z.iret (pc := 44) (ty := .int) dX8_image_44 rfl rfl ?_
    exact kd (S' := ((len, pg), (n, k, s, f, hr, fd, ho), (sz, sg, so, se), true, (hr, k, s, fd, ho, (sz, sg, so, se)), np)) (by simp [a_image, n0]) ⟨hP.mv rfl rfl, hG.mv rfl rfl rfl rfl, hE.mv rfl rfl rfl rfl, ⟨rfl, hK.2⟩, fun _ => ⟨hG.1, hG.2.1, hG.2.2.1, hG.2.2.2.1, hG.2.2.2.2.1, hG.2.2.2.2.2.1, hG.2.2.2.2.2.2, hE.1, (by show rdR (h.1 8) (h.1 16) 6 = _; rw [hE.2.1]; exact rd6 sE.2.1 hX.2.2.2.2.2.2.2.1), (by show rdR (h.1 9) (h.1 17) 6 = _; rw [hE.2.2.1]; exact rd6 sE.2.2.1 hX.2.2.2.2.2.2.2.2.1), (by show rdR (h.1 10) (h.1 18) 6 = _; rw [hE.2.2.2]; exact rd6 sE.2.2.2.1 hX.2.2.2.2.2.2.2.2.2)⟩, ⟨hX.1, (by show dZ8 (h.1 4); rw [hG.2.2.2.2.1]; exact zk), (by show dZ8 (h.1 5); rw [hG.2.2.2.2.2.1]; exact zs), (by show dZ8 (h.1 6); rw [hG.2.2.2.2.2.2]; exact zf), hX.2.2.2.2.1, hX.2.2.2.2.2.1, hX.2.2.2.2.2.2.1, (by show dZ6 (rdR (h.1 8) (h.1 16) 6); rw [hE.2.1, rd6 sE.2.1 hX.2.2.2.2.2.2.2.1]; exact sE.2.1), (by show dZ6 (rdR (h.1 9) (h.1 17) 6); rw [hE.2.2.1, rd6 sE.2.2.1 hX.2.2.2.2.2.2.2.2.1]; exact sE.2.2.1), (by show dZ6 (rdR (h.1 10) (h.1 18) 6); rw [hE.2.2.2, rd6 sE.2.2.2.1 hX.2.2.2.2.2.2.2.2.2]; exact sE.2.2.2.1)⟩⟩ (fr_up (fr_row (fr_row (fr_row (fr_up (fr_cpX fr_rf (by decide)) (by decide)) (by decide)) (by decide)) (by decide)) (by decide))
  · have n0 : n = 0 := by have := of_decide_eq_false c4; omega
    refine Z.bipush (pc := 7) (v := (-103)) dX8_image_7 (by decide) ?_
    refine Z.iret (pc := 9) (ty := .int) dX8_image_9 rfl rfl ?_
    exact kd (S' := ((len, pg), (n, k, s, f, hr, fd, ho), (sz, sg, so, se), kept, (ihr, ik, js, ifd, iho, (isz, isg, iso, ise)), np)) (by simp [a_image, n0]) hD fr_rf
set_option maxRecDepth 100000 in
set_option maxHeartbeats 400000 in
theorem c_X8_restore {h : hp} {len n hr fd ho sz ihr ifd iho isz np : Nat} {pg k s f sg so se ik js isg iso ise : zF} {kept : Bool} (hD : D h ((len, pg), (n, k, s, f, hr, fd, ho), (sz, sg, so, se), kept, (ihr, ik, js, ifd, iho, (isz, isg, iso, ise)), np)) (hS : OkS ((len, pg), (n, k, s, f, hr, fd, ho), (sz, sg, so, se), kept, (ihr, ik, js, ifd, iho, (isz, isg, iso, ise)), np))  : Cn yX8_restore cX8_restore 1 (some .int) 2 [.ref 0] h (KD h (.int (a_restore ((len, pg), (n, k, s, f, hr, fd, ho), (sz, sg, so, se), kept, (ihr, ik, js, ifd, iho, (isz, isg, iso, ise)), np)).1) (a_restore ((len, pg), (n, k, s, f, hr, fd, ho), (sz, sg, so, se), kept, (ihr, ik, js, ifd, iho, (isz, isg, iso, ise)), np)).2) := by
  obtain ⟨hP, hG, hE, hK, hI, hX⟩ := id hD
  obtain ⟨⟨sp1, sp2⟩, ⟨sk, shl, sfd, sho, zk, zs, zf⟩, sE, sI⟩ := id hS
  have hR := hG.Rm shl sk
  have hn8 := sk.1
  have hp8 := p8 hn8
  refine Cn.of (by decide) (Nat.le_of_ble_eq_true rfl) ?_
  refine Z.eqL (lv' := [(0, .ref 0)]) rfl ?_
  refine Z.aload_n (pc := 0) (i := 0) dX8_restore_0 rfl rfl ?_
  refine Z.getIv (pc := 1) dX8_restore_1 zf_X8_91 rfl rfl hK.1 ?_
  refine Z.if_ne_b (pc := 4) (tgt := 10) dX8_restore_4 (by decide) (fun c4 => ?_) (fun c4 => ?_)
  · obtain ⟨tk, til, tfd, tho, wk, wj, tE⟩ := sI c4
    obtain ⟨d1, d2, d3, d4, d5, d6, d7, d8, d9, d10, d11⟩ := hI c4
    have x1 : va_cpy (h.1 12) (h.1 4) 0 0 8 = h.1 12 := cpy8 (by rw [d5]; exact wk) (by rw [hG.2.2.2.2.1]; exact zk)
    have x2 : va_cpy (h.1 13) (h.1 5) 0 0 8 = h.1 13 := cpy8 (by rw [d6]; exact wj) (by rw [hG.2.2.2.2.2.1]; exact zs)
    have x3 : va_cpy (h.1 14) (h.1 6) 0 0 8 = h.1 14 := cpy8 (by rw [d7]; exact zf) (by rw [hG.2.2.2.2.2.2]; exact zf)
    refine Z.aload_n (pc := 10) (i := 0) dX8_restore_10 rfl rfl ?_
    refine Z.getR (pc := 11) dX8_restore_11 zf_X8_19 rfl rfl ?_
    refine Z.aload_n (pc := 14) (i := 0) dX8_restore_14 rfl rfl ?_
    refine Z.getR (pc := 15) dX8_restore_15 zf_X8_30 rfl rfl ?_
    refine Z.callVv (pc := 18) dX8_restore_18 (c_X6_copyFrom_3_11 x1 x2 x3) zm_X8_172 zv_X6_copyFrom rfl rfl rfl rfl (by decide) (by decide) (Nat.le_of_ble_eq_true rfl) ?_
    refine Z.aload_n (pc := 21) (i := 0) dX8_restore_21 rfl rfl ?_
    refine Z.getR (pc := 22) dX8_restore_22 zf_X8_26 rfl rfl ?_
    refine Z.aload_n (pc := 25) (i := 0) dX8_restore_25 rfl rfl ?_
    refine Z.getR (pc := 26) dX8_restore_26 zf_X8_33 rfl rfl ?_
    refine Z.callVv (pc := 29) dX8_restore_29 (c_X7_copyFrom_7_15 (fun i _ => by show vp_nar .boolean (h.1 18 i) = h.1 18 i; rw [d11]; exact nar01 (tE.2.2.2.2 i))) zm_X8_201 zv_X7_copyFrom rfl rfl rfl rfl (by decide) (by decide) (Nat.le_of_ble_eq_true rfl) ?_
    refine Z.aload_n (pc := 32) (i := 0) dX8_restore_32 rfl rfl ?_
    refine Z.getR (pc := 33) dX8_restore_33 zf_X8_19 rfl rfl ?_
    refine Z.getIv (pc := 36) dX8_restore_36 zf_X8_143 rfl rfl (show _ = nI iho from d4) ?_
    refine Z.iret (pc := 39) (ty := .int) dX8_restore_39 rfl rfl ?_
    exact kd (S' := ((len, pg), (n, ik, js, f, ihr, ifd, iho), (isz, isg, iso, ise), kept, (ihr, ik, js, ifd, iho, (isz, isg, iso, ise)), np)) (by simp [a_restore, c4]) ⟨hP.mv rfl rfl, ⟨d1, d2, d3, d4, d5, d6, d7⟩, ⟨d8, (by show rdR (h.1 16) (h.1 8) 6 = _; rw [d9, hE.2.1]; exact rd6 tE.2.1 sE.2.1), (by show rdR (h.1 17) (h.1 9) 6 = _; rw [d10, hE.2.2.1]; exact rd6 tE.2.2.1 sE.2.2.1), (by show rdR (h.1 18) (h.1 10) 6 = _; rw [d11, hE.2.2.2]; exact rd6 tE.2.2.2.1 sE.2.2.2.1)⟩, hK.mv rfl, hI.mv rfl rfl rfl rfl rfl rfl rfl rfl, hX.mv hX.1 rfl rfl rfl rfl rfl rfl hX.2.2.2.2.1 hX.2.2.2.2.2.1 hX.2.2.2.2.2.2.1⟩ (fr_row (fr_row (fr_row (fr_up (fr_cpX fr_rf (by decide)) (by decide)) (by decide)) (by decide)) (by decide))
  · refine Z.bipush (pc := 7) (v := (-103)) dX8_restore_7 (by decide) ?_
    refine Z.iret (pc := 9) (ty := .int) dX8_restore_9 rfl rfl ?_
    exact kd (S' := ((len, pg), (n, k, s, f, hr, fd, ho), (sz, sg, so, se), kept, (ihr, ik, js, ifd, iho, (isz, isg, iso, ise)), np)) (by simp [a_restore, c4]) hD fr_rf
set_option maxRecDepth 100000 in
set_option maxHeartbeats 400000 in
theorem c_X8_count_0 {h : hp} {len n hr fd ho sz np : Nat} {k s f : zF} (hl : h.1 1 1 = nI len) (hR : Rm h 3 n hr k s f) (hfd : h.1 3 5 = nI fd) (hho : h.1 3 6 = nI ho) (hz : h.1 7 3 = nI sz) (hnp : h.1 0 11 = nI np)  : Cn yX8_count cX8_count 2 (some .int) 3 [.ref 0, .int (nI 0)] h (z_eq (some (.int (cnI len n k s f hr fd ho sz np 0))) h) := by
  have hn8 := hR.2.2.2.1.1
  have hp8 := p8 hn8
  have hlt := hR.2.2.1
  refine Cn.of (by decide) (Nat.le_of_ble_eq_true rfl) ?_
  refine Z.eqL (lv' := [(0, .ref 0), (1, .int (nI 0))]) rfl ?_
  refine Z.iload_n (pc := 0) (i := 1) dX8_count_0 rfl rfl ?_
  refine Z.tableIn (pc := 1) (off := 55) (tgt := 56) dX8_count_1 (by decide) (by decide) (by decide) (by decide) ?_
  refine Z.aload_n (pc := 56) (i := 0) dX8_count_56 rfl rfl ?_
  refine Z.getR (pc := 57) dX8_count_57 zf_X8_19 rfl rfl ?_
  refine Z.getIv (pc := 60) dX8_count_60 zf_X8_98 rfl rfl hR.1 ?_
  refine Z.iret (pc := 63) (ty := .int) dX8_count_63 rfl rfl ?_
  exact ⟨rfl, rfl⟩
set_option maxRecDepth 100000 in
set_option maxHeartbeats 400000 in
theorem c_X8_count_1 {h : hp} {len n hr fd ho sz np : Nat} {k s f : zF} (hl : h.1 1 1 = nI len) (hR : Rm h 3 n hr k s f) (hfd : h.1 3 5 = nI fd) (hho : h.1 3 6 = nI ho) (hz : h.1 7 3 = nI sz) (hnp : h.1 0 11 = nI np)  : Cn yX8_count cX8_count 2 (some .int) 3 [.ref 0, .int (nI 1)] h (z_eq (some (.int (cnI len n k s f hr fd ho sz np 1))) h) := by
  have hn8 := hR.2.2.2.1.1
  have hp8 := p8 hn8
  have hlt := hR.2.2.1
  refine Cn.of (by decide) (Nat.le_of_ble_eq_true rfl) ?_
  refine Z.eqL (lv' := [(0, .ref 0), (1, .int (nI 1))]) rfl ?_
  refine Z.iload_n (pc := 0) (i := 1) dX8_count_0 rfl rfl ?_
  refine Z.tableIn (pc := 1) (off := 63) (tgt := 64) dX8_count_1 (by decide) (by decide) (by decide) (by decide) ?_
  refine Z.aload_n (pc := 64) (i := 0) dX8_count_64 rfl rfl ?_
  refine Z.getR (pc := 65) dX8_count_65 zf_X8_19 rfl rfl ?_
  refine Z.getIv (pc := 68) dX8_count_68 zf_X8_129 rfl rfl hR.2.1 ?_
  refine Z.callSi (pc := 71) dX8_count_71 (c_J6_bitCount_0f7a4 hr (by omega)) zm_X8_135 zs_J6_bitCount_0f7a4 rfl rfl (by decide) (by decide) (Nat.le_of_ble_eq_true rfl) ?_
  refine Z.iret (pc := 74) (ty := .int) dX8_count_74 rfl rfl ?_
  exact ⟨rfl, rfl⟩
set_option maxRecDepth 100000 in
set_option maxHeartbeats 400000 in
theorem c_X8_count_2 {h : hp} {len n hr fd ho sz np : Nat} {k s f : zF} (hl : h.1 1 1 = nI len) (hR : Rm h 3 n hr k s f) (hfd : h.1 3 5 = nI fd) (hho : h.1 3 6 = nI ho) (hz : h.1 7 3 = nI sz) (hnp : h.1 0 11 = nI np)  : Cn yX8_count cX8_count 2 (some .int) 3 [.ref 0, .int (nI 2)] h (z_eq (some (.int (cnI len n k s f hr fd ho sz np 2))) h) := by
  have hn8 := hR.2.2.2.1.1
  have hp8 := p8 hn8
  have hlt := hR.2.2.1
  refine Cn.of (by decide) (Nat.le_of_ble_eq_true rfl) ?_
  refine Z.eqL (lv' := [(0, .ref 0), (1, .int (nI 2))]) rfl ?_
  refine Z.iload_n (pc := 0) (i := 1) dX8_count_0 rfl rfl ?_
  refine Z.tableIn (pc := 1) (off := 74) (tgt := 75) dX8_count_1 (by decide) (by decide) (by decide) (by decide) ?_
  refine Z.aload_n (pc := 75) (i := 0) dX8_count_75 rfl rfl ?_
  refine Z.getR (pc := 76) dX8_count_76 zf_X8_19 rfl rfl ?_
  refine Z.getIv (pc := 79) dX8_count_79 zf_X8_159 rfl rfl hfd ?_
  refine Z.iret (pc := 82) (ty := .int) dX8_count_82 rfl rfl ?_
  exact ⟨rfl, rfl⟩
set_option maxRecDepth 100000 in
set_option maxHeartbeats 400000 in
theorem c_X8_count_3 {h : hp} {len n hr fd ho sz np : Nat} {k s f : zF} (hl : h.1 1 1 = nI len) (hR : Rm h 3 n hr k s f) (hfd : h.1 3 5 = nI fd) (hho : h.1 3 6 = nI ho) (hz : h.1 7 3 = nI sz) (hnp : h.1 0 11 = nI np)  : Cn yX8_count cX8_count 2 (some .int) 3 [.ref 0, .int (nI 3)] h (z_eq (some (.int (cnI len n k s f hr fd ho sz np 3))) h) := by
  have hn8 := hR.2.2.2.1.1
  have hp8 := p8 hn8
  have hlt := hR.2.2.1
  refine Cn.of (by decide) (Nat.le_of_ble_eq_true rfl) ?_
  refine Z.eqL (lv' := [(0, .ref 0), (1, .int (nI 3))]) rfl ?_
  refine Z.iload_n (pc := 0) (i := 1) dX8_count_0 rfl rfl ?_
  refine Z.tableIn (pc := 1) (off := 82) (tgt := 83) dX8_count_1 (by decide) (by decide) (by decide) (by decide) ?_
  refine Z.aload_n (pc := 83) (i := 0) dX8_count_83 rfl rfl ?_
  refine Z.getR (pc := 84) dX8_count_84 zf_X8_19 rfl rfl ?_
  refine Z.getIv (pc := 87) dX8_count_87 zf_X8_143 rfl rfl hho ?_
  refine Z.iret (pc := 90) (ty := .int) dX8_count_90 rfl rfl ?_
  exact ⟨rfl, rfl⟩
set_option maxRecDepth 100000 in
set_option maxHeartbeats 400000 in
theorem c_X8_count_4 {h : hp} {len n hr fd ho sz np : Nat} {k s f : zF} (hl : h.1 1 1 = nI len) (hR : Rm h 3 n hr k s f) (hfd : h.1 3 5 = nI fd) (hho : h.1 3 6 = nI ho) (hz : h.1 7 3 = nI sz) (hnp : h.1 0 11 = nI np)  : Cn yX8_count cX8_count 2 (some .int) 3 [.ref 0, .int (nI 4)] h (z_eq (some (.int (cnI len n k s f hr fd ho sz np 4))) h) := by
  have hn8 := hR.2.2.2.1.1
  have hp8 := p8 hn8
  have hlt := hR.2.2.1
  refine Cn.of (by decide) (Nat.le_of_ble_eq_true rfl) ?_
  refine Z.eqL (lv' := [(0, .ref 0), (1, .int (nI 4))]) rfl ?_
  refine Z.iload_n (pc := 0) (i := 1) dX8_count_0 rfl rfl ?_
  refine Z.tableIn (pc := 1) (off := 90) (tgt := 91) dX8_count_1 (by decide) (by decide) (by decide) (by decide) ?_
  refine Z.aload_n (pc := 91) (i := 0) dX8_count_91 rfl rfl ?_
  refine Z.getR (pc := 92) dX8_count_92 zf_X8_19 rfl rfl ?_
  refine Z.aload_n (pc := 95) (i := 0) dX8_count_95 rfl rfl ?_
  refine Z.getR (pc := 96) dX8_count_96 zf_X8_19 rfl rfl ?_
  refine Z.getIv (pc := 99) dX8_count_99 zf_X8_129 rfl rfl hR.2.1 ?_
  refine Z.callVi (pc := 102) dX8_count_102 (c_X6_shyTogether (o := 3) (Or.inl rfl) hR hr hlt) zm_X8_204 zv_X6_shyTogether rfl rfl rfl rfl (by decide) (by decide) (Nat.le_of_ble_eq_true rfl) ?_
  refine Z.iret (pc := 105) (ty := .int) dX8_count_105 rfl rfl ?_
  exact ⟨rfl, rfl⟩
set_option maxRecDepth 100000 in
set_option maxHeartbeats 400000 in
theorem c_X8_count_5 {h : hp} {len n hr fd ho sz np : Nat} {k s f : zF} (hl : h.1 1 1 = nI len) (hR : Rm h 3 n hr k s f) (hfd : h.1 3 5 = nI fd) (hho : h.1 3 6 = nI ho) (hz : h.1 7 3 = nI sz) (hnp : h.1 0 11 = nI np)  : Cn yX8_count cX8_count 2 (some .int) 3 [.ref 0, .int (nI 5)] h (z_eq (some (.int (cnI len n k s f hr fd ho sz np 5))) h) := by
  have hn8 := hR.2.2.2.1.1
  have hp8 := p8 hn8
  have hlt := hR.2.2.1
  refine Cn.of (by decide) (Nat.le_of_ble_eq_true rfl) ?_
  refine Z.eqL (lv' := [(0, .ref 0), (1, .int (nI 5))]) rfl ?_
  refine Z.iload_n (pc := 0) (i := 1) dX8_count_0 rfl rfl ?_
  refine Z.tableIn (pc := 1) (off := 105) (tgt := 106) dX8_count_1 (by decide) (by decide) (by decide) (by decide) ?_
  refine Z.aload_n (pc := 106) (i := 0) dX8_count_106 rfl rfl ?_
  refine Z.getR (pc := 107) dX8_count_107 zf_X8_19 rfl rfl ?_
  refine Z.aload_n (pc := 110) (i := 0) dX8_count_110 rfl rfl ?_
  refine Z.getR (pc := 111) dX8_count_111 zf_X8_19 rfl rfl ?_
  refine Z.callVi (pc := 114) dX8_count_114 (c_X6_gone (o := 3) (Or.inl rfl) hR) zm_X8_195 zv_X6_gone rfl rfl rfl rfl (by decide) (by decide) (Nat.le_of_ble_eq_true rfl) ?_
  refine Z.callVi (pc := 117) dX8_count_117 (c_X6_countTogether (o := 3) (Or.inl rfl) hR _ (gon_lt n hr)) zm_X8_207 zv_X6_countTogether rfl rfl rfl rfl (by decide) (by decide) (Nat.le_of_ble_eq_true rfl) ?_
  refine Z.iret (pc := 120) (ty := .int) dX8_count_120 rfl rfl ?_
  exact ⟨rfl, rfl⟩
set_option maxRecDepth 100000 in
set_option maxHeartbeats 400000 in
theorem c_X8_count_6 {h : hp} {len n hr fd ho sz np : Nat} {k s f : zF} (hl : h.1 1 1 = nI len) (hR : Rm h 3 n hr k s f) (hfd : h.1 3 5 = nI fd) (hho : h.1 3 6 = nI ho) (hz : h.1 7 3 = nI sz) (hnp : h.1 0 11 = nI np)  : Cn yX8_count cX8_count 2 (some .int) 3 [.ref 0, .int (nI 6)] h (z_eq (some (.int (cnI len n k s f hr fd ho sz np 6))) h) := by
  have hn8 := hR.2.2.2.1.1
  have hp8 := p8 hn8
  have hlt := hR.2.2.1
  refine Cn.of (by decide) (Nat.le_of_ble_eq_true rfl) ?_
  refine Z.eqL (lv' := [(0, .ref 0), (1, .int (nI 6))]) rfl ?_
  refine Z.iload_n (pc := 0) (i := 1) dX8_count_0 rfl rfl ?_
  refine Z.tableIn (pc := 1) (off := 120) (tgt := 121) dX8_count_1 (by decide) (by decide) (by decide) (by decide) ?_
  refine Z.aload_n (pc := 121) (i := 0) dX8_count_121 rfl rfl ?_
  refine Z.getR (pc := 122) dX8_count_122 zf_X8_19 rfl rfl ?_
  refine Z.callVi (pc := 125) dX8_count_125 (c_X6_whoCanGoAlone (o := 3) (Or.inl rfl) hR) zm_X8_210 zv_X6_whoCanGoAlone rfl rfl rfl rfl (by decide) (by decide) (Nat.le_of_ble_eq_true rfl) ?_
  refine Z.callSi (pc := 128) dX8_count_128 (c_J6_bitCount_0f7a4 _ (Nat.lt_of_lt_of_le (alo_lt hlt) (by omega))) zm_X8_135 zs_J6_bitCount_0f7a4 rfl rfl (by decide) (by decide) (Nat.le_of_ble_eq_true rfl) ?_
  refine Z.iret (pc := 131) (ty := .int) dX8_count_131 rfl rfl ?_
  exact ⟨rfl, rfl⟩
set_option maxRecDepth 100000 in
set_option maxHeartbeats 400000 in
theorem c_X8_count_7 {h : hp} {len n hr fd ho sz np : Nat} {k s f : zF} (hl : h.1 1 1 = nI len) (hR : Rm h 3 n hr k s f) (hfd : h.1 3 5 = nI fd) (hho : h.1 3 6 = nI ho) (hz : h.1 7 3 = nI sz) (hnp : h.1 0 11 = nI np)  : Cn yX8_count cX8_count 2 (some .int) 3 [.ref 0, .int (nI 7)] h (z_eq (some (.int (cnI len n k s f hr fd ho sz np 7))) h) := by
  have hn8 := hR.2.2.2.1.1
  have hp8 := p8 hn8
  have hlt := hR.2.2.1
  refine Cn.of (by decide) (Nat.le_of_ble_eq_true rfl) ?_
  refine Z.eqL (lv' := [(0, .ref 0), (1, .int (nI 7))]) rfl ?_
  refine Z.iload_n (pc := 0) (i := 1) dX8_count_0 rfl rfl ?_
  refine Z.tableIn (pc := 1) (off := 131) (tgt := 132) dX8_count_1 (by decide) (by decide) (by decide) (by decide) ?_
  refine Z.aload_n (pc := 132) (i := 0) dX8_count_132 rfl rfl ?_
  refine Z.getR (pc := 133) dX8_count_133 zf_X8_26 rfl rfl ?_
  refine Z.getIv (pc := 136) dX8_count_136 zf_X8_184 rfl rfl hz ?_
  refine Z.iret (pc := 139) (ty := .int) dX8_count_139 rfl rfl ?_
  exact ⟨rfl, rfl⟩
set_option maxRecDepth 100000 in
set_option maxHeartbeats 400000 in
theorem c_X8_count_8 {h : hp} {len n hr fd ho sz np : Nat} {k s f : zF} (hl : h.1 1 1 = nI len) (hR : Rm h 3 n hr k s f) (hfd : h.1 3 5 = nI fd) (hho : h.1 3 6 = nI ho) (hz : h.1 7 3 = nI sz) (hnp : h.1 0 11 = nI np)  : Cn yX8_count cX8_count 2 (some .int) 3 [.ref 0, .int (nI 8)] h (z_eq (some (.int (cnI len n k s f hr fd ho sz np 8))) h) := by
  have hn8 := hR.2.2.2.1.1
  have hp8 := p8 hn8
  have hlt := hR.2.2.1
  refine Cn.of (by decide) (Nat.le_of_ble_eq_true rfl) ?_
  refine Z.eqL (lv' := [(0, .ref 0), (1, .int (nI 8))]) rfl ?_
  refine Z.iload_n (pc := 0) (i := 1) dX8_count_0 rfl rfl ?_
  refine Z.tableIn (pc := 1) (off := 139) (tgt := 140) dX8_count_1 (by decide) (by decide) (by decide) (by decide) ?_
  refine Z.aload_n (pc := 140) (i := 0) dX8_count_140 rfl rfl ?_
  refine Z.getR (pc := 141) dX8_count_141 zf_X8_10 rfl rfl ?_
  refine Z.getIv (pc := 144) dX8_count_144 zf_X8_67 rfl rfl hl ?_
  refine Z.iret (pc := 147) (ty := .int) dX8_count_147 rfl rfl ?_
  exact ⟨rfl, rfl⟩
set_option maxRecDepth 100000 in
set_option maxHeartbeats 400000 in
theorem c_X8_count_9 {h : hp} {len n hr fd ho sz np : Nat} {k s f : zF} (hl : h.1 1 1 = nI len) (hR : Rm h 3 n hr k s f) (hfd : h.1 3 5 = nI fd) (hho : h.1 3 6 = nI ho) (hz : h.1 7 3 = nI sz) (hnp : h.1 0 11 = nI np)  : Cn yX8_count cX8_count 2 (some .int) 3 [.ref 0, .int (nI 9)] h (z_eq (some (.int (cnI len n k s f hr fd ho sz np 9))) h) := by
  have hn8 := hR.2.2.2.1.1
  have hp8 := p8 hn8
  have hlt := hR.2.2.1
  refine Cn.of (by decide) (Nat.le_of_ble_eq_true rfl) ?_
  refine Z.eqL (lv' := [(0, .ref 0), (1, .int (nI 9))]) rfl ?_
  refine Z.iload_n (pc := 0) (i := 1) dX8_count_0 rfl rfl ?_
  refine Z.tableIn (pc := 1) (off := 147) (tgt := 148) dX8_count_1 (by decide) (by decide) (by decide) (by decide) ?_
  refine Z.aload_n (pc := 148) (i := 0) dX8_count_148 rfl rfl ?_
  refine Z.getIv (pc := 149) dX8_count_149 zf_X8_95 rfl rfl hnp ?_
  refine Z.iret (pc := 152) (ty := .int) dX8_count_152 rfl rfl ?_
  exact ⟨rfl, rfl⟩
theorem c_X8_countN {h : hp} {len n hr fd ho sz np : Nat} {k s f : zF} (hl : h.1 1 1 = nI len) (hR : Rm h 3 n hr k s f) (hfd : h.1 3 5 = nI fd) (hho : h.1 3 6 = nI ho) (hz : h.1 7 3 = nI sz) (hnp : h.1 0 11 = nI np) (w : Nat) (hw : w ≤ 9) : Cn yX8_count cX8_count 2 (some .int) 3 [.ref 0, .int (nI w)] h (z_eq (some (.int (cnI len n k s f hr fd ho sz np w))) h) := by
  rcases (show w = 0 ∨ w = 1 ∨ w = 2 ∨ w = 3 ∨ w = 4 ∨ w = 5 ∨ w = 6 ∨ w = 7 ∨ w = 8 ∨ w = 9 by omega) with rfl | rfl | rfl | rfl | rfl | rfl | rfl | rfl | rfl | rfl
  · exact c_X8_count_0 hl hR hfd hho hz hnp
  · exact c_X8_count_1 hl hR hfd hho hz hnp
  · exact c_X8_count_2 hl hR hfd hho hz hnp
  · exact c_X8_count_3 hl hR hfd hho hz hnp
  · exact c_X8_count_4 hl hR hfd hho hz hnp
  · exact c_X8_count_5 hl hR hfd hho hz hnp
  · exact c_X8_count_6 hl hR hfd hho hz hnp
  · exact c_X8_count_7 hl hR hfd hho hz hnp
  · exact c_X8_count_8 hl hR hfd hho hz hnp
  · exact c_X8_count_9 hl hR hfd hho hz hnp
set_option maxRecDepth 100000 in
set_option maxHeartbeats 400000 in
theorem c_X8_count_out {h : hp} (w : Int32) (q : inR w 0 9 = false)  : Cn yX8_count cX8_count 2 (some .int) 3 [.ref 0, .int w] h (z_eq (some (.int (-102))) h) := by
  refine Cn.of (by decide) (Nat.le_of_ble_eq_true rfl) ?_
  refine Z.eqL (lv' := [(0, .ref 0), (1, .int w)]) rfl ?_
  refine Z.iload_n (pc := 0) (i := 1) dX8_count_0 rfl rfl ?_
  refine Z.tableOut (pc := 1) (tgt := 153) dX8_count_1 (out9 q) (by decide) ?_
  refine Z.bipush (pc := 153) (v := (-102)) dX8_count_153 (by decide) ?_
  refine Z.iret (pc := 155) (ty := .int) dX8_count_155 rfl rfl ?_
  exact ⟨rfl, rfl⟩
theorem c_X8_count {h : hp} {len n hr fd ho sz ihr ifd iho isz np : Nat} {pg k s f sg so se ik js isg iso ise : zF} {kept : Bool} (hD : D h ((len, pg), (n, k, s, f, hr, fd, ho), (sz, sg, so, se), kept, (ihr, ik, js, ifd, iho, (isz, isg, iso, ise)), np)) (hS : OkS ((len, pg), (n, k, s, f, hr, fd, ho), (sz, sg, so, se), kept, (ihr, ik, js, ifd, iho, (isz, isg, iso, ise)), np)) (w : Int32) : Cn yX8_count cX8_count 2 (some .int) 3 [.ref 0, .int w] h (KD h (.int (a_count ((len, pg), (n, k, s, f, hr, fd, ho), (sz, sg, so, se), kept, (ihr, ik, js, ifd, iho, (isz, isg, iso, ise)), np) w).1) (a_count ((len, pg), (n, k, s, f, hr, fd, ho), (sz, sg, so, se), kept, (ihr, ik, js, ifd, iho, (isz, isg, iso, ise)), np) w).2) := by
  obtain ⟨hP, hG, hE, hK, hI, hX⟩ := id hD
  obtain ⟨⟨sp1, sp2⟩, ⟨sk, shl, sfd, sho, zk, zs, zf⟩, sE, sI⟩ := id hS
  cases q : inR w 0 9 with
  | false => exact (c_X8_count_out w q).mono (fun r h' z => by obtain ⟨rfl, rfl⟩ := z; exact kd (S' := ((len, pg), (n, k, s, f, hr, fd, ho), (sz, sg, so, se), kept, (ihr, ik, js, ifd, iho, (isz, isg, iso, ise)), np)) (by simp [a_count, q]) hD fr_rf)
  | true =>
    obtain ⟨v, hv, rfl⟩ := inR_of (b := 9) (by decide) q
    have ev : (nI v).toNatClampNeg = v := nI_clamp (by omega)
    exact (c_X8_countN hP.1 (hG.Rm shl sk) hG.2.2.1 hG.2.2.2.1 hE.1 hK.2 v hv).mono (fun r h' z => by obtain ⟨rfl, rfl⟩ := z; exact kd (S' := ((len, pg), (n, k, s, f, hr, fd, ho), (sz, sg, so, se), kept, (ihr, ik, js, ifd, iho, (isz, isg, iso, ise)), np)) (by simp [a_count, q, ev]) hD fr_rf)
