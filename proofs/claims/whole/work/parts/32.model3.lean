set_option maxRecDepth 100000 in
set_option maxHeartbeats 400000 in
theorem l_X9_endsNow {h : hp} {n hr fd : Nat} {k f : zF} {K : Option Value → hp → Prop} (X : Int32) (h17 : h.1 30 17 = nI hr) (h18 : h.1 30 18 = nI fd) (hK : ∀ hh st, TM h n k f hh st → hh.2 = h.2 → K (some (.int X)) (ldX hh (rdR (hh.1 38) (hh.1 32) 8) hr fd)) : ∀ (r i : Nat) (hh : hp) (st : zF × Nat × Nat), i + r = 61 → TM h n k f hh st → hh.2 = h.2 → enI k f n r i st = X → Z yX9_endsNow cX9_endsNow 2 (some .int) 6 (K) 6 [(0, .ref 30), (1, .int (nI i))] [] hh := by
  intro r
  induction r with
  | zero =>
    intro i hh st hi hT h2 hX
    obtain rfl : 61 = i := by omega
    refine Z.aload_n (pc := 6) (i := 0) dX9_endsNow_6 rfl rfl ?_
    refine Z.getIv (pc := 7) dX9_endsNow_7 zf_X9_89 rfl rfl hT.1.2.1 ?_
    refine Z.if_eq (pc := 10) (tgt := 30) dX9_endsNow_10 (by decide) (fun c10 => ?_) (fun c10 => ?_)
    · refine Z.aload_n (pc := 30) (i := 0) dX9_endsNow_30 rfl rfl ?_
      refine Z.callVv (pc := 31) dX9_endsNow_31 (c_X9_load ((hT.2.2.2.2.2 17 (by decide)).trans h17) ((hT.2.2.2.2.2 18 (by decide)).trans h18)) zm_X9_192 zv_X9_load rfl rfl rfl rfl (by decide) (by decide) (Nat.le_of_ble_eq_true rfl) ?_
      refine Z.iload_n (pc := 34) (i := 1) dX9_endsNow_34 rfl rfl ?_
      refine Z.bipush (pc := 35) (v := (nI 60)) dX9_endsNow_35 (by decide) ?_
      refine Z.icmp_le_f (pc := 37) (tgt := 44) dX9_endsNow_37 (by decide) (nI_ge (by decide) (by decide)) ?_
      refine Z.iconst (pc := 40) (v := (-1)) dX9_endsNow_40 (by decide) ?_
      refine Z.goto (pc := 41) (tgt := 45) dX9_endsNow_41 (by decide) ?_
      refine Z.iret (pc := 45) (ty := .int) dX9_endsNow_45 rfl rfl ?_
      have eX : X = -1 := hX.symm
      rw [← eX]
      exact hK hh st hT h2
    · refine Z.iload_n (pc := 13) (i := 1) dX9_endsNow_13 rfl rfl ?_
      refine Z.bipush (pc := 14) (v := (nI 60)) dX9_endsNow_14 (by decide) ?_
      refine Z.icmp_gt_t (pc := 16) (tgt := 30) dX9_endsNow_16 (by decide) (nI_lt (by decide) (by decide)) ?_
      refine Z.aload_n (pc := 30) (i := 0) dX9_endsNow_30 rfl rfl ?_
      refine Z.callVv (pc := 31) dX9_endsNow_31 (c_X9_load ((hT.2.2.2.2.2 17 (by decide)).trans h17) ((hT.2.2.2.2.2 18 (by decide)).trans h18)) zm_X9_192 zv_X9_load rfl rfl rfl rfl (by decide) (by decide) (Nat.le_of_ble_eq_true rfl) ?_
      refine Z.iload_n (pc := 34) (i := 1) dX9_endsNow_34 rfl rfl ?_
      refine Z.bipush (pc := 35) (v := (nI 60)) dX9_endsNow_35 (by decide) ?_
      refine Z.icmp_le_f (pc := 37) (tgt := 44) dX9_endsNow_37 (by decide) (nI_ge (by decide) (by decide)) ?_
      refine Z.iconst (pc := 40) (v := (-1)) dX9_endsNow_40 (by decide) ?_
      refine Z.goto (pc := 41) (tgt := 45) dX9_endsNow_41 (by decide) ?_
      refine Z.iret (pc := 45) (ty := .int) dX9_endsNow_45 rfl rfl ?_
      have eX : X = -1 := hX.symm
      rw [← eX]
      exact hK hh st hT h2
  | succ r ih =>
    intro i hh st hi hT h2 hX
    have hp8 := p8 hT.1.2.2.2.1.1
    have hlt := hT.1.2.2.1
    refine Z.aload_n (pc := 6) (i := 0) dX9_endsNow_6 rfl rfl ?_
    refine Z.getIv (pc := 7) dX9_endsNow_7 zf_X9_89 rfl rfl hT.1.2.1 ?_
    refine Z.if_eq (pc := 10) (tgt := 30) dX9_endsNow_10 (by decide) (fun c10 => ?_) (fun c10 => ?_)
    · have q : st.2.1 = 0 := (nI_0' (by omega)).mp c10
      have eX : X = nI i := by rw [← hX, enI, if_pos q]
      refine Z.aload_n (pc := 30) (i := 0) dX9_endsNow_30 rfl rfl ?_
      refine Z.callVv (pc := 31) dX9_endsNow_31 (c_X9_load ((hT.2.2.2.2.2 17 (by decide)).trans h17) ((hT.2.2.2.2.2 18 (by decide)).trans h18)) zm_X9_192 zv_X9_load rfl rfl rfl rfl (by decide) (by decide) (Nat.le_of_ble_eq_true rfl) ?_
      refine Z.iload_n (pc := 34) (i := 1) dX9_endsNow_34 rfl rfl ?_
      refine Z.bipush (pc := 35) (v := (nI 60)) dX9_endsNow_35 (by decide) ?_
      refine Z.icmp_le_t (pc := 37) (tgt := 44) dX9_endsNow_37 (by decide) (nI_le (by omega) (by decide)) ?_
      refine Z.iload_n (pc := 44) (i := 1) dX9_endsNow_44 rfl rfl ?_
      refine Z.iret (pc := 45) (ty := .int) dX9_endsNow_45 rfl rfl ?_
      rw [← eX]
      exact hK hh st hT h2
    · have q : ¬ st.2.1 = 0 := fun z => c10 (by rw [z]; rfl)
      refine Z.iload_n (pc := 13) (i := 1) dX9_endsNow_13 rfl rfl ?_
      refine Z.bipush (pc := 14) (v := (nI 60)) dX9_endsNow_14 (by decide) ?_
      refine Z.icmp_gt_f (pc := 16) (tgt := 30) dX9_endsNow_16 (by decide) (nI_nlt (by omega) (by omega)) ?_
      refine Z.aload_n (pc := 19) (i := 0) dX9_endsNow_19 rfl rfl ?_
      refine Z.callVi (pc := 20) dX9_endsNow_20 (c_X9_goHour hT.1 hT.2.1 hT.2.2.1) zm_X9_164 zv_X9_goHour rfl rfl rfl rfl (by decide) (by decide) (Nat.le_of_ble_eq_true rfl) ?_
      refine Z.pop (pc := 23) dX9_endsNow_23 rfl ?_
      refine Z.iinc (pc := 24) (i := 1) (v := (nI (i + 1))) dX9_endsNow_24 rfl (by exact ii_1 i) (by decide) rfl ?_
      refine Z.goto (pc := 27) (tgt := 6) dX9_endsNow_27 (by decide) ?_
      exact ih (i + 1) _ _ (by omega) (TM_step hT) h2 (by rw [← hX, enI, if_neg q])
set_option maxRecDepth 100000 in
set_option maxHeartbeats 400000 in
theorem c_X9_endsNow {h : hp} {n hr : Nat} {k s f : zF} (hM : Mm h n hr k s f) {fd : Nat} (hfd : h.1 30 2 = nI fd) (hf9 : fd ≤ 99) (zs : dZ8 s) (z38 : dZ8 (h.1 38))  : Cn yX9_endsNow cX9_endsNow 2 (some .int) 6 [.ref 30] h (fun r hh => r = some (.int (enI k f n 61 0 (s, hr, fd))) ∧ OM h hh) := by
  refine Cn.of (by decide) (Nat.le_of_ble_eq_true rfl) ?_
  refine Z.eqL (lv' := [(0, .ref 30)]) rfl ?_
  refine Z.aload_n (pc := 0) (i := 0) dX9_endsNow_0 rfl rfl ?_
  refine Z.callVv (pc := 1) dX9_endsNow_1 (c_X9_save) zm_X9_189 zv_X9_save rfl rfl rfl rfl (by decide) (by decide) (Nat.le_of_ble_eq_true rfl) ?_
  rw [hM.2.2.2.2.2.1, rd8 zs z38]
  refine Z.iconst (pc := 4) (v := (nI 0)) dX9_endsNow_4 (by decide) ?_
  refine Z.istore_n (pc := 5) (i := 1) dX9_endsNow_5 rfl (by decide) rfl ?_
  exact l_X9_endsNow (h := svX h s) (n := n) (hr := hr) (fd := fd) (k := k) (f := f) (enI k f n 61 0 (s, hr, fd)) (sv_17.trans hM.2.1) (sv_18.trans hfd) (fun hh st hT h2 => ⟨rfl, OM_ld hM hfd zs hT (fun r j _ => by rw [h2]; rfl)⟩) 61 0 (svX h s) (s, hr, fd) rfl (TM_0 hM hfd hf9 zs) rfl rfl
set_option maxRecDepth 100000 in
set_option maxHeartbeats 400000 in
theorem c_X9_draw {h : hp} (sd b : Nat) (hs : h.2 30 19 = lN sd) (hs31 : sd < 2 ^ 31) (hb : 0 < b) (hb31 : b < 2 ^ 31)  : Cn yX9_draw cX9_draw 2 (some .int) 0 [.ref 30, .int (nI b)] h (z_eq (some (.int (nI (sdN sd / 65536 % b)))) (z_upL h 30 19 (lN (sdN sd)))) := by
  have hd1 := sdN_lt sd
  have hd2 : sdN sd / 65536 ≤ sdN sd := Nat.div_le_self _ _
  refine Cn.of (by decide) (Nat.le_of_ble_eq_true rfl) ?_
  refine Z.eqL (lv' := [(0, .ref 30), (1, .int (nI b))]) rfl ?_
  refine Z.aload_n (pc := 0) (i := 0) dX9_draw_0 rfl rfl ?_
  refine Z.ldc2 (pc := 1) dX9_draw_1 zk_X9_208 ?_
  refine Z.aload_n (pc := 4) (i := 0) dX9_draw_4 rfl rfl ?_
  refine Z.getL (pc := 5) dX9_draw_5 zf_X9_210 rfl rfl ?_
  refine Z.topl (hs) ?_
  refine Z.lmul (pc := 8) dX9_draw_8 ?_
  refine Z.topl (show lN 1103515245 * lN sd = _ from lN_mul _ _) ?_
  refine Z.ldc2 (pc := 9) dX9_draw_9 zk_X9_214 ?_
  refine Z.ladd (pc := 12) dX9_draw_12 ?_
  refine Z.topl (show lN (1103515245 * sd) + lN 12345 = _ from lN_add _ _) ?_
  refine Z.ldc2 (pc := 13) dX9_draw_13 zk_X9_216 ?_
  refine Z.land (pc := 16) dX9_draw_16 ?_
  refine Z.topl (show _ = lN (sdN sd) from l_and) ?_
  refine Z.putL (pc := 17) dX9_draw_17 zp_X9_210 rfl rfl ?_
  refine Z.aload_n (pc := 20) (i := 0) dX9_draw_20 rfl rfl ?_
  refine Z.getL (pc := 21) dX9_draw_21 zf_X9_210 rfl rfl ?_
  refine Z.topl (upL_at) ?_
  refine Z.ldc2 (pc := 24) dX9_draw_24 zk_X9_218 ?_
  refine Z.ldiv (pc := 27) dX9_draw_27 (by decide) ?_
  refine Z.topl (show lN (sdN sd) / lN 65536 = _ from pk_lDiv (by omega) (by decide) (by decide)) ?_
  refine Z.iload_n (pc := 28) (i := 1) dX9_draw_28 rfl rfl ?_
  refine Z.i2l (pc := 29) dX9_draw_29 ?_
  refine Z.topl (nI_l hb31) ?_
  refine Z.lrem (pc := 30) dX9_draw_30 (fun e => Nat.ne_of_gt hb ((lN_eq (b := 0) hb31 (by decide)).mp e)) ?_
  refine Z.topl (pk_lRem (by omega) hb (by omega)) ?_
  refine Z.l2i (pc := 31) dX9_draw_31 ?_
  refine Z.top (lN_i _) ?_
  refine Z.iret (pc := 32) (ty := .int) dX9_draw_32 rfl rfl ?_
  exact ⟨rfl, rfl⟩
set_option maxRecDepth 100000 in
set_option maxHeartbeats 400000 in
theorem c_X9_goNight {h0 h : hp} {n : Nat} {k f s' : zF} {a b sd : Nat} (hT : TQ h0 n k f h (s', a, b, sd)) (n1 : 0 < n)  : Cn yX9_goNight cX9_goNight 2 none 6 [.ref 30] h (fun r hh => r = none ∧ TQ h0 n k f hh (ntSt k f n (s', a, b, sd))) := by
  refine Cn.of (by decide) (Nat.le_of_ble_eq_true rfl) ?_
  refine Z.eqL (lv' := [(0, .ref 30)]) rfl ?_
  refine Z.aload_n (pc := 0) (i := 0) dX9_goNight_0 rfl rfl ?_
  refine Z.iconst (pc := 1) (v := (nI 3)) dX9_goNight_1 (by decide) ?_
  refine Z.callVi (pc := 2) dX9_goNight_2 (c_X9_draw sd 3 hT.2.1 hT.2.2.1 (by decide) (by decide)) zm_X9_220 zv_X9_draw rfl rfl rfl rfl (by decide) (by decide) (Nat.le_of_ble_eq_true rfl) ?_
  have hT1 := TQ_sd hT
  have hn8 := hT1.1.1.2.2.2.1.1
  refine Z.if_ne (pc := 5) (tgt := 36) dX9_goNight_5 (by decide) (fun c5 => ?_) (fun c5 => ?_)
  · have q : ¬ sdN sd / 65536 % 3 = 0 := fun z => c5 (by rw [z]; rfl)
    refine Z.aload_n (pc := 36) (i := 0) dX9_goNight_36 rfl rfl ?_
    refine Z.callVi (pc := 37) dX9_goNight_37 (c_X9_goHour hT1.1.1 hT1.1.2.1 hT1.1.2.2.1) zm_X9_164 zv_X9_goHour rfl rfl rfl rfl (by decide) (by decide) (Nat.le_of_ble_eq_true rfl) ?_
    have hTn := TQ_hr hT1
    rw [← nt_A q] at hTn
    refine Z.pop (pc := 40) dX9_goNight_40 rfl ?_
    refine Z.vret (pc := 41) dX9_goNight_41 rfl ?_
    exact ⟨rfl, hTn⟩
  · have q : sdN sd / 65536 % 3 = 0 := (nI_0' (Nat.lt_of_lt_of_le (Nat.mod_lt _ (by decide)) (by decide))).mp c5
    refine Z.aload_n (pc := 8) (i := 0) dX9_goNight_8 rfl rfl ?_
    refine Z.aload_n (pc := 9) (i := 0) dX9_goNight_9 rfl rfl ?_
    refine Z.getIv (pc := 10) dX9_goNight_10 zf_X9_83 rfl rfl hT1.1.1.1 ?_
    refine Z.callVi (pc := 13) dX9_goNight_13 (c_X9_draw (sdN sd) n hT1.2.1 hT1.2.2.1 n1 (by omega)) zm_X9_220 zv_X9_draw rfl rfl rfl rfl (by decide) (by decide) (Nat.le_of_ble_eq_true rfl) ?_
    have hT2 := TQ_sd hT1
    have hgn : (sdN (sdN sd) / 65536 % n) < n := Nat.mod_lt _ n1
    refine Z.istore_n (pc := 16) (i := 1) dX9_goNight_16 rfl (by decide) rfl ?_
    refine Z.aload_n (pc := 17) (i := 0) dX9_goNight_17 rfl rfl ?_
    refine Z.getIv (pc := 18) dX9_goNight_18 zf_X9_89 rfl rfl hT2.1.1.2.1 ?_
    refine Z.iload_n (pc := 21) (i := 1) dX9_goNight_21 rfl rfl ?_
    refine Z.callSi (pc := 22) dX9_goNight_22 (c_X9_isIn a _ (by omega) (l31 hT2.1.1.2.2.1 hn8)) zm_X9_105 zs_X9_isIn rfl rfl (by decide) (by decide) (Nat.le_of_ble_eq_true rfl) ?_
    refine Z.if_eq_b (pc := 25) (tgt := 33) dX9_goNight_25 (by decide) (fun c25 => ?_) (fun c25 => ?_)
    · have hTn := hT2
      rw [← nt_C q c25] at hTn
      refine Z.goto (pc := 33) (tgt := 41) dX9_goNight_33 (by decide) ?_
      refine Z.vret (pc := 41) dX9_goNight_41 rfl ?_
      exact ⟨rfl, hTn⟩
    · refine Z.aload_n (pc := 28) (i := 0) dX9_goNight_28 rfl rfl ?_
      refine Z.iload_n (pc := 29) (i := 1) dX9_goNight_29 rfl rfl ?_
      refine Z.callVv (pc := 30) dX9_goNight_30 (c_X9_shyLess hT2.1.1 _ hgn) zm_X9_157 zv_X9_shyLess rfl rfl rfl rfl (by decide) (by decide) (Nat.le_of_ble_eq_true rfl) ?_
      have hTn := TQ_hint hgn hT2
      rw [← nt_B q c25] at hTn
      refine Z.goto (pc := 33) (tgt := 41) dX9_goNight_33 (by decide) ?_
      refine Z.vret (pc := 41) dX9_goNight_41 rfl ?_
      exact ⟨rfl, hTn⟩
set_option maxRecDepth 100000 in
set_option maxHeartbeats 400000 in
theorem l_X9_nightsNow {h : hp} {n hr fd : Nat} {k f : zF} {K : Option Value → hp → Prop} {u w : Int32} (X : zF × Nat × Nat × Nat) (n1 : 0 < n) (t : Nat) (ht : t < 2 ^ 31) (h17 : h.1 30 17 = nI hr) (h18 : h.1 30 18 = nI fd) (hK : ∀ hh v, TQ h n k f hh X → v = tldI n w X → K (some (.int v)) (ldX hh (rdR (hh.1 38) (hh.1 32) 8) hr fd)) : ∀ (r i : Nat) (hh : hp) (s' : zF) (a b sd : Nat), i + r = t → TQ h n k f hh (s', a, b, sd) → itS (ntSt k f n) r (s', a, b, sd) = X → Z yX9_nightsNow cX9_nightsNow 5 (some .int) 7 (K) 13 [(0, .ref 30), (1, .int (nI t)), (2, .int u), (3, .int w), (4, .int (nI i))] [] hh := by
  intro r
  induction r with
  | zero =>
    intro i hh s' a b sd hi hT hX
    obtain rfl : t = i := by omega
    have hX : (s', a, b, sd) = X := hX
    subst hX
    have hp8 := p8 hT.1.1.2.2.2.1.1
    refine Z.iload (pc := 13) (i := 4) dX9_nightsNow_13 rfl ?_
    refine Z.iload_n (pc := 15) (i := 1) dX9_nightsNow_15 rfl rfl ?_
    refine Z.icmp_ge_t (pc := 16) (tgt := 29) dX9_nightsNow_16 (by decide) (nI_le (Nat.le_refl _) ht) ?_
    refine Z.iload_n (pc := 29) (i := 3) dX9_nightsNow_29 rfl rfl ?_
    refine Z.if_ne (pc := 30) (tgt := 43) dX9_nightsNow_30 (by decide) (fun c30 => ?_) (fun c30 => ?_)
    · refine Z.iload_n (pc := 43) (i := 3) dX9_nightsNow_43 rfl rfl ?_
      refine Z.iconst (pc := 44) (v := (1)) dX9_nightsNow_44 (by decide) ?_
      refine Z.icmp_ne (pc := 45) (tgt := 55) dX9_nightsNow_45 (by decide) (fun c45 => ?_) (fun c45 => ?_)
      · refine Z.aload_n (pc := 55) (i := 0) dX9_nightsNow_55 rfl rfl ?_
        refine Z.getL (pc := 56) dX9_nightsNow_56 zf_X9_210 rfl rfl ?_
        refine Z.topl (hT.2.1) ?_
        refine Z.l2i (pc := 59) dX9_nightsNow_59 ?_
        refine Z.top (lN_i _) ?_
        refine Z.istore (pc := 60) (i := 4) dX9_nightsNow_60 (by decide) rfl ?_
        refine Z.aload_n (pc := 62) (i := 0) dX9_nightsNow_62 rfl rfl ?_
        refine Z.callVv (pc := 63) dX9_nightsNow_63 (c_X9_load ((hT.1.2.2.2.2.2 17 (by decide)).trans h17) ((hT.1.2.2.2.2.2 18 (by decide)).trans h18)) zm_X9_192 zv_X9_load rfl rfl rfl rfl (by decide) (by decide) (Nat.le_of_ble_eq_true rfl) ?_
        refine Z.iload (pc := 66) (i := 4) dX9_nightsNow_66 rfl ?_
        refine Z.iret (pc := 68) (ty := .int) dX9_nightsNow_68 rfl rfl ?_
        refine hK hh _ hT ?_
        unfold tldI
        first | (rw [if_pos c30]; done) | (rw [if_neg c30, if_neg c45]; done) | (rw [if_neg c30, if_pos c45]; done)
      · refine Z.aload_n (pc := 48) (i := 0) dX9_nightsNow_48 rfl rfl ?_
        refine Z.getIv (pc := 49) dX9_nightsNow_49 zf_X9_86 rfl rfl hT.1.2.1 ?_
        refine Z.goto (pc := 52) (tgt := 60) dX9_nightsNow_52 (by decide) ?_
        refine Z.istore (pc := 60) (i := 4) dX9_nightsNow_60 (by decide) rfl ?_
        refine Z.aload_n (pc := 62) (i := 0) dX9_nightsNow_62 rfl rfl ?_
        refine Z.callVv (pc := 63) dX9_nightsNow_63 (c_X9_load ((hT.1.2.2.2.2.2 17 (by decide)).trans h17) ((hT.1.2.2.2.2.2 18 (by decide)).trans h18)) zm_X9_192 zv_X9_load rfl rfl rfl rfl (by decide) (by decide) (Nat.le_of_ble_eq_true rfl) ?_
        refine Z.iload (pc := 66) (i := 4) dX9_nightsNow_66 rfl ?_
        refine Z.iret (pc := 68) (ty := .int) dX9_nightsNow_68 rfl rfl ?_
        refine hK hh _ hT ?_
        unfold tldI
        first | (rw [if_pos c30]; done) | (rw [if_neg c30, if_neg c45]; done) | (rw [if_neg c30, if_pos c45]; done)
    · refine Z.aload_n (pc := 33) (i := 0) dX9_nightsNow_33 rfl rfl ?_
      refine Z.callVi (pc := 34) dX9_nightsNow_34 (c_X9_gone hT.1.1) zm_X9_114 zv_X9_gone rfl rfl rfl rfl (by decide) (by decide) (Nat.le_of_ble_eq_true rfl) ?_
      refine Z.callSi (pc := 37) dX9_nightsNow_37 (c_X9_size _ (Nat.lt_of_lt_of_le (gon_lt n _) (by omega))) zm_X9_154 zs_X9_size rfl rfl (by decide) (by decide) (Nat.le_of_ble_eq_true rfl) ?_
      refine Z.goto (pc := 40) (tgt := 60) dX9_nightsNow_40 (by decide) ?_
      refine Z.istore (pc := 60) (i := 4) dX9_nightsNow_60 (by decide) rfl ?_
      refine Z.aload_n (pc := 62) (i := 0) dX9_nightsNow_62 rfl rfl ?_
      refine Z.callVv (pc := 63) dX9_nightsNow_63 (c_X9_load ((hT.1.2.2.2.2.2 17 (by decide)).trans h17) ((hT.1.2.2.2.2.2 18 (by decide)).trans h18)) zm_X9_192 zv_X9_load rfl rfl rfl rfl (by decide) (by decide) (Nat.le_of_ble_eq_true rfl) ?_
      refine Z.iload (pc := 66) (i := 4) dX9_nightsNow_66 rfl ?_
      refine Z.iret (pc := 68) (ty := .int) dX9_nightsNow_68 rfl rfl ?_
      refine hK hh _ hT ?_
      unfold tldI
      first | (rw [if_pos c30]; done) | (rw [if_neg c30, if_neg c45]; done) | (rw [if_neg c30, if_pos c45]; done)
  | succ r ih =>
    intro i hh s' a b sd hi hT hX
    refine Z.iload (pc := 13) (i := 4) dX9_nightsNow_13 rfl ?_
    refine Z.iload_n (pc := 15) (i := 1) dX9_nightsNow_15 rfl rfl ?_
    refine Z.icmp_ge_f (pc := 16) (tgt := 29) dX9_nightsNow_16 (by decide) (nI_ge (by omega) ht) ?_
    refine Z.aload_n (pc := 19) (i := 0) dX9_nightsNow_19 rfl rfl ?_
    refine Z.callV (pc := 20) dX9_nightsNow_20 (c_X9_goNight hT n1) zm_X9_223 zv_X9_goNight rfl rfl rfl rfl (by decide) (by decide) (Nat.le_of_ble_eq_true rfl) (fun r20 h20 k20 => ?_)
    obtain ⟨rfl, hTn⟩ := k20
    refine Z.iinc (pc := 23) (i := 4) (v := (nI (i + 1))) dX9_nightsNow_23 rfl (by exact ii_1 i) (by decide) rfl ?_
    refine Z.goto (pc := 26) (tgt := 13) dX9_nightsNow_26 (by decide) ?_
    have hX : itS (ntSt k f n) r (ntSt k f n (s', a, b, sd)) = X := hX
    generalize ntSt k f n (s', a, b, sd) = Y at hTn hX
    obtain ⟨s2, a2, b2, sd2⟩ := Y
    exact ih (i + 1) _ _ _ _ _ (by omega) hTn hX
set_option maxRecDepth 100000 in
set_option maxHeartbeats 400000 in
theorem c_X9_nightsNow {h : hp} {n hr : Nat} {k s f : zF} (hM : Mm h n hr k s f) {fd : Nat} (hfd : h.1 30 2 = nI fd) (hf9 : fd ≤ 99) (zs : dZ8 s) (z38 : dZ8 (h.1 38)) (n1 : 0 < n) (t sd : Nat) (ht : t < 2 ^ 31) (hsd : sd < 2 ^ 31) (w : Int32)  : Cn yX9_nightsNow cX9_nightsNow 5 (some .int) 7 [.ref 30, .int (nI t), .int (nI sd), .int w] h (fun r hh => r = some (.int (tldI n w (ntN k s f n hr fd t sd))) ∧ OM h hh) := by
  refine Cn.of (by decide) (Nat.le_of_ble_eq_true rfl) ?_
  refine Z.eqL (lv' := [(0, .ref 30), (1, .int (nI t)), (2, .int (nI sd)), (3, .int w)]) rfl ?_
  refine Z.aload_n (pc := 0) (i := 0) dX9_nightsNow_0 rfl rfl ?_
  refine Z.callVv (pc := 1) dX9_nightsNow_1 (c_X9_save) zm_X9_189 zv_X9_save rfl rfl rfl rfl (by decide) (by decide) (Nat.le_of_ble_eq_true rfl) ?_
  rw [hM.2.2.2.2.2.1, rd8 zs z38]
  refine Z.aload_n (pc := 4) (i := 0) dX9_nightsNow_4 rfl rfl ?_
  refine Z.iload_n (pc := 5) (i := 2) dX9_nightsNow_5 rfl rfl ?_
  refine Z.i2l (pc := 6) dX9_nightsNow_6 ?_
  refine Z.topl (nI_l hsd) ?_
  refine Z.putL (pc := 7) dX9_nightsNow_7 zp_X9_210 rfl rfl ?_
  refine Z.iconst (pc := 10) (v := (nI 0)) dX9_nightsNow_10 (by decide) ?_
  refine Z.istore (pc := 11) (i := 4) dX9_nightsNow_11 (by decide) rfl ?_
  exact l_X9_nightsNow (h := svX h s) (n := n) (hr := hr) (fd := fd) (k := k) (f := f) (ntN k s f n hr fd t sd) n1 t ht (sv_17.trans hM.2.1) (sv_18.trans hfd) (fun hh v hT ev => ⟨by rw [ev], OM_ld hM hfd zs hT.1 hT.2.2.2⟩) t 0 (z_upL (svX h s) 30 19 (lN sd)) s hr fd sd (by omega) (TQ_0 hM hfd hf9 zs hsd) rfl
set_option maxRecDepth 100000 in
set_option maxHeartbeats 400000 in
theorem l_X9_hintsFor {h : hp} {n hr : Nat} {k s f : zF} (hM : Mm h n hr k s f) (g : Nat) (hg : g < n) (a : Nat) (hsa : s g = nI a) (ha : a ≤ 9) (ot : Int32) : ∀ (r i : Nat) , i + r = a + 1 → htI (k g) a ot r i = htT (k g) a ot → Z yX9_hintsFor cX9_hintsFor 4 (some .int) 1 (z_eq (some (.int (farI (htT (k g) a ot)))) h) 7 [(0, .ref 30), (1, .int (nI g)), (2, .int ot), (3, .int (nI a - nI i))] [] h := by
  have hn8 := hM.2.2.2.1.1
  have hp8 := p8 hn8
  have hlt := hM.2.2.1
  intro r
  induction r with
  | zero =>
    intro i hi hX
    obtain rfl : a + 1 = i := by omega
    refine Z.iload_n (pc := 7) (i := 3) dX9_hintsFor_7 rfl rfl ?_
    refine Z.if_lt_t (pc := 8) (tgt := 40) dX9_hintsFor_8 (by decide) (pk_sneg (by omega) (by omega)) ?_
    refine Z.ldc (pc := 40) dX9_hintsFor_40 zk_X9_173 ?_
    refine Z.iret (pc := 42) (ty := .int) dX9_hintsFor_42 rfl rfl ?_
    exact ⟨by rw [← hX]; rfl, rfl⟩
  | succ r ih =>
    intro i hi hX
    refine Z.iload_n (pc := 7) (i := 3) dX9_hintsFor_7 rfl rfl ?_
    refine Z.top (pk_sub (by omega)) ?_
    refine Z.if_lt_f (pc := 8) (tgt := 40) dX9_hintsFor_8 (by decide) (by rw [← nI_0]; exact nI_nlt (Nat.zero_le _) (by omega)) ?_
    refine Z.aload_n (pc := 11) (i := 0) dX9_hintsFor_11 rfl rfl ?_
    refine Z.getR (pc := 12) dX9_hintsFor_12 zf_X9_7 rfl rfl ?_
    refine Z.iload_n (pc := 15) (i := 1) dX9_hintsFor_15 rfl rfl ?_
    refine Z.iald (pc := 16) dX9_hintsFor_16 rfl (by omega) (by decide) ?_
    refine Z.top (show _ = k g from congrFun hM.2.2.2.2.1 g) ?_
    refine Z.iload_n (pc := 17) (i := 3) dX9_hintsFor_17 rfl rfl ?_
    refine Z.top (pk_sub (by omega)) ?_
    refine Z.callSi (pc := 18) dX9_hintsFor_18 (c_X9_needsBy _ _ (hM.2.2.2.1.2.1 g hg)) zm_X9_101 zs_X9_needsBy rfl rfl (by decide) (by decide) (Nat.le_of_ble_eq_true rfl) ?_
    refine Z.iload_n (pc := 21) (i := 2) dX9_hintsFor_21 rfl rfl ?_
    refine Z.icmp_gt (pc := 22) (tgt := 34) dX9_hintsFor_22 (by decide) (fun c22 => ?_) (fun c22 => ?_)
    · refine Z.iinc (pc := 34) (i := 3) (v := (nI a - nI (i + 1))) dX9_hintsFor_34 rfl (by exact nI_sub1 a i) (by decide) rfl ?_
      refine Z.goto (pc := 37) (tgt := 7) dX9_hintsFor_37 (by decide) ?_
      exact ih (i + 1) (by omega) (by rw [← hX, htI, if_neg (lt_nle c22)])
    · refine Z.aload_n (pc := 25) (i := 0) dX9_hintsFor_25 rfl rfl ?_
      refine Z.getR (pc := 26) dX9_hintsFor_26 zf_X9_13 rfl rfl ?_
      refine Z.iload_n (pc := 29) (i := 1) dX9_hintsFor_29 rfl rfl ?_
      refine Z.iald (pc := 30) dX9_hintsFor_30 rfl (by omega) (by decide) ?_
      refine Z.top ((show _ = s g from congrFun hM.2.2.2.2.2.1 g).trans hsa) ?_
      refine Z.iload_n (pc := 31) (i := 3) dX9_hintsFor_31 rfl rfl ?_
      refine Z.top (pk_sub (by omega)) ?_
      refine Z.isub (pc := 32) dX9_hintsFor_32 ?_
      refine Z.top ((pk_sub (by omega)).trans (show _ = nI i from congrArg nI (by omega))) ?_
      refine Z.iret (pc := 33) (ty := .int) dX9_hintsFor_33 rfl rfl ?_
      exact ⟨by rw [← hX, htI, if_pos (nlt c22), far_nI (by omega)], rfl⟩
set_option maxRecDepth 100000 in
set_option maxHeartbeats 400000 in
theorem c_X9_hintsFor {h : hp} {n hr : Nat} {k s f : zF} (hM : Mm h n hr k s f) (g : Nat) (hg : g < n) (a : Nat) (hsa : s g = nI a) (ha : a ≤ 9) (ot : Int32)  : Cn yX9_hintsFor cX9_hintsFor 4 (some .int) 1 [.ref 30, .int (nI g), .int ot] h (z_eq (some (.int (farI (htT (k g) a ot)))) h) := by
  have hn8 := hM.2.2.2.1.1
  have hp8 := p8 hn8
  have hlt := hM.2.2.1
  refine Cn.of (by decide) (Nat.le_of_ble_eq_true rfl) ?_
  refine Z.eqL (lv' := [(0, .ref 30), (1, .int (nI g)), (2, .int ot)]) rfl ?_
  refine Z.aload_n (pc := 0) (i := 0) dX9_hintsFor_0 rfl rfl ?_
  refine Z.getR (pc := 1) dX9_hintsFor_1 zf_X9_13 rfl rfl ?_
  refine Z.iload_n (pc := 4) (i := 1) dX9_hintsFor_4 rfl rfl ?_
  refine Z.iald (pc := 5) dX9_hintsFor_5 rfl (by omega) (by decide) ?_
  refine Z.top (((show _ = s g from congrFun hM.2.2.2.2.2.1 g).trans hsa).trans (show _ = nI a - nI 0 from (Int32.sub_zero _).symm)) ?_
  refine Z.istore_n (pc := 6) (i := 3) dX9_hintsFor_6 rfl (by decide) rfl ?_
  exact l_X9_hintsFor hM g hg a hsa ha ot (a + 1) 0 (by omega) rfl
set_option maxRecDepth 100000 in
set_option maxHeartbeats 400000 in
theorem l_X9_hintsInF {h : hp} {n hr : Nat} {k s f : zF} (hM : Mm h n hr k s f) (m i : Nat) {K : Option Value → hp → Prop} (hK : K (some (.int 268435456)) h) : Z yX9_hintsIn cX9_hintsIn 5 (some .int) 3 K 4 [(0, .ref 30), (1, .int (nI m)), (2, .int 268435456), (3, .int (nI i))] [] h := by
  refine Z.iload_n (pc := 4) (i := 3) dX9_hintsIn_4 rfl rfl ?_
  refine Z.aload_n (pc := 5) (i := 0) dX9_hintsIn_5 rfl rfl ?_
  refine Z.getIv (pc := 6) dX9_hintsIn_6 zf_X9_83 rfl rfl hM.1 ?_
  refine Z.icmp_ge (pc := 9) (tgt := 76) dX9_hintsIn_9 (by decide) (fun c9 => ?_) (fun c9 => ?_)
  · refine Z.iload_n (pc := 76) (i := 2) dX9_hintsIn_76 rfl rfl ?_
    refine Z.iret (pc := 77) (ty := .int) dX9_hintsIn_77 rfl rfl ?_
    exact hK
  · refine Z.iload_n (pc := 12) (i := 2) dX9_hintsIn_12 rfl rfl ?_
    refine Z.ldc (pc := 13) dX9_hintsIn_13 zk_X9_173 ?_
    refine Z.icmp_ge_t (pc := 15) (tgt := 76) dX9_hintsIn_15 (by decide) (by decide) ?_
    refine Z.iload_n (pc := 76) (i := 2) dX9_hintsIn_76 rfl rfl ?_
    refine Z.iret (pc := 77) (ty := .int) dX9_hintsIn_77 rfl rfl ?_
    exact hK
set_option maxRecDepth 100000 in
set_option maxHeartbeats 400000 in
theorem l_X9_hintsInG {h : hp} {n hr : Nat} {k s f : zF} (hM : Mm h n hr k s f) (m i : Nat) (u : Int32) {K : Option Value → hp → Prop} (hK : K (some (.int 268435456)) h) : Z yX9_hintsIn cX9_hintsIn 5 (some .int) 3 K 49 [(0, .ref 30), (1, .int (nI m)), (2, .int u), (3, .int (nI i))] [] h := by
  refine Z.ldc (pc := 49) dX9_hintsIn_49 zk_X9_173 ?_
  refine Z.istore (pc := 51) (i := 4) dX9_hintsIn_51 (by decide) rfl ?_
  refine Z.iload (pc := 53) (i := 4) dX9_hintsIn_53 rfl ?_
  refine Z.ldc (pc := 55) dX9_hintsIn_55 zk_X9_173 ?_
  refine Z.icmp_ne_f (pc := 57) (tgt := 65) dX9_hintsIn_57 (by decide) (rfl) ?_
  refine Z.ldc (pc := 60) dX9_hintsIn_60 zk_X9_173 ?_
  refine Z.goto (pc := 62) (tgt := 69) dX9_hintsIn_62 (by decide) ?_
  refine Z.istore_n (pc := 69) (i := 2) dX9_hintsIn_69 rfl (by decide) rfl ?_
  refine Z.iinc (pc := 70) (i := 3) (v := (nI (i + 1))) dX9_hintsIn_70 rfl (by exact ii_1 i) (by decide) rfl ?_
  refine Z.goto (pc := 73) (tgt := 4) dX9_hintsIn_73 (by decide) ?_
  refine Z.drop 4 ?_
  exact l_X9_hintsInF hM m (i + 1) hK
set_option maxRecDepth 100000 in
set_option maxHeartbeats 400000 in
theorem l_X9_hintsIn {h : hp} {n hr : Nat} {k s f : zF} (hM : Mm h n hr k s f) (m : Nat) (hm : m < 2 ^ n) : ∀ (r i : Nat) (A : Nat), i + r = n → A ≤ 9 * i → hiR k s f (m ||| gon n hr) m (r + (8 - n)) i (nI A) = hiT k s f n hr m → Z yX9_hintsIn cX9_hintsIn 5 (some .int) 3 (z_eq (some (.int (farI (hiT k s f n hr m)))) h) 4 [(0, .ref 30), (1, .int (nI m)), (2, .int (nI A)), (3, .int (nI i))] [] h := by
  have hn8 := hM.2.2.2.1.1
  have hp8 := p8 hn8
  have hlt := hM.2.2.1
  intro r
  induction r with
  | zero =>
    intro i A hi hA hX
    obtain rfl : n = i := by omega
    refine Z.iload_n (pc := 4) (i := 3) dX9_hintsIn_4 rfl rfl ?_
    refine Z.aload_n (pc := 5) (i := 0) dX9_hintsIn_5 rfl rfl ?_
    refine Z.getIv (pc := 6) dX9_hintsIn_6 zf_X9_83 rfl rfl hM.1 ?_
    refine Z.icmp_ge_t (pc := 9) (tgt := 76) dX9_hintsIn_9 (by decide) (nI_le (Nat.le_refl _) (by omega)) ?_
    refine Z.iload_n (pc := 76) (i := 2) dX9_hintsIn_76 rfl rfl ?_
    refine Z.iret (pc := 77) (ty := .int) dX9_hintsIn_77 rfl rfl ?_
    exact ⟨by rw [← hX, hiR_end _ _ (fun j hj => bit_lt hm hj), far_nI (by omega)], rfl⟩
  | succ r ih =>
    intro i A hi hA hX
    rw [show r + 1 + (8 - n) = r + (8 - n) + 1 by omega] at hX
    refine Z.iload_n (pc := 4) (i := 3) dX9_hintsIn_4 rfl rfl ?_
    refine Z.aload_n (pc := 5) (i := 0) dX9_hintsIn_5 rfl rfl ?_
    refine Z.getIv (pc := 6) dX9_hintsIn_6 zf_X9_83 rfl rfl hM.1 ?_
    refine Z.icmp_ge_f (pc := 9) (tgt := 76) dX9_hintsIn_9 (by decide) (nI_ge (by omega) (by omega)) ?_
    refine Z.iload_n (pc := 12) (i := 2) dX9_hintsIn_12 rfl rfl ?_
    refine Z.ldc (pc := 13) dX9_hintsIn_13 zk_X9_173 ?_
    refine Z.icmp_ge_f (pc := 15) (tgt := 76) dX9_hintsIn_15 (by decide) (nI_ge (b := 268435456) (by omega) (by decide)) ?_
    refine Z.iload_n (pc := 18) (i := 1) dX9_hintsIn_18 rfl rfl ?_
    refine Z.iload_n (pc := 19) (i := 3) dX9_hintsIn_19 rfl rfl ?_
    refine Z.callSi (pc := 20) dX9_hintsIn_20 (c_X9_isIn m i (by omega) (l31 hm hn8)) zm_X9_105 zs_X9_isIn rfl rfl (by decide) (by decide) (Nat.le_of_ble_eq_true rfl) ?_
    refine Z.if_eq_b (pc := 23) (tgt := 70) dX9_hintsIn_23 (by decide) (fun c23 => ?_) (fun c23 => ?_)
    · rw [hiR_f c23] at hX
      have fin := ih (i + 1) A (by omega) (by omega) hX
      refine Z.iinc (pc := 70) (i := 3) (v := (nI (i + 1))) dX9_hintsIn_70 rfl (by exact ii_1 i) (by decide) rfl ?_
      refine Z.goto (pc := 73) (tgt := 4) dX9_hintsIn_73 (by decide) ?_
      first | (refine Z.drop 4 ?_; exact fin; done) | exact fin
    · have hin : i < n := by omega
      obtain ⟨a, ha, hsa⟩ := hM.2.2.2.1.2.2.1 i hin
      refine Z.aload_n (pc := 26) (i := 0) dX9_hintsIn_26 rfl rfl ?_
      refine Z.iload_n (pc := 27) (i := 3) dX9_hintsIn_27 rfl rfl ?_
      refine Z.iload_n (pc := 28) (i := 1) dX9_hintsIn_28 rfl rfl ?_
      refine Z.callVi (pc := 29) dX9_hintsIn_29 (c_X9_hasFriend hM m hm i hin) zm_X9_120 zv_X9_hasFriend rfl rfl rfl rfl (by decide) (by decide) (Nat.le_of_ble_eq_true rfl) ?_
      refine Z.if_eq_b (pc := 32) (tgt := 49) dX9_hintsIn_32 (by decide) (fun c32 => ?_) (fun c32 => ?_)
      · have eX : hiT k s f n hr m = -1 := by rw [← hX, hiR_n c23 hsa ha (Or.inr c32)]
        exact l_X9_hintsInG hM m i _ ⟨by rw [eX]; rfl, rfl⟩
      · refine Z.aload_n (pc := 35) (i := 0) dX9_hintsIn_35 rfl rfl ?_
        refine Z.iload_n (pc := 36) (i := 3) dX9_hintsIn_36 rfl rfl ?_
        refine Z.aload_n (pc := 37) (i := 0) dX9_hintsIn_37 rfl rfl ?_
        refine Z.iload_n (pc := 38) (i := 3) dX9_hintsIn_38 rfl rfl ?_
        refine Z.iload_n (pc := 39) (i := 1) dX9_hintsIn_39 rfl rfl ?_
        refine Z.callVi (pc := 40) dX9_hintsIn_40 (c_X9_othersFor hM m hm i (by omega)) zm_X9_123 zv_X9_othersFor rfl rfl rfl rfl (by decide) (by decide) (Nat.le_of_ble_eq_true rfl) ?_
        refine Z.top (cnt_dif (by rw [Nat.testBit_or, c23]; rfl) (by omega)) ?_
        refine Z.callVi (pc := 43) dX9_hintsIn_43 (c_X9_hintsFor hM i hin a hsa ha _) zm_X9_174 zv_X9_hintsFor rfl rfl rfl rfl (by decide) (by decide) (Nat.le_of_ble_eq_true rfl) ?_
        refine Z.goto (pc := 46) (tgt := 51) dX9_hintsIn_46 (by decide) ?_
        refine Z.istore (pc := 51) (i := 4) dX9_hintsIn_51 (by decide) rfl ?_
        refine Z.iload (pc := 53) (i := 4) dX9_hintsIn_53 rfl ?_
        refine Z.ldc (pc := 55) dX9_hintsIn_55 zk_X9_173 ?_
        refine Z.icmp_ne (pc := 57) (tgt := 65) dX9_hintsIn_57 (by decide) (fun c57 => ?_) (fun c57 => ?_)
        · have et := far_ne c57
          have q : ¬ (htT (k i) a (cntI k (m ||| gon n hr) - ctsI (k i))) = -1 := fun z => c57 (by rw [z]; rfl)
          obtain ⟨B, hB, eB⟩ := (htT_fr (k := k i) (ot := cntI k (m ||| gon n hr) - ctsI (k i)) ha).resolve_left q
          rw [hiR_s c23 hsa ha q c32, eB, nI_add] at hX
          have fin := ih (i + 1) (A + B) (by omega) (by omega) hX
          refine Z.iload_n (pc := 65) (i := 2) dX9_hintsIn_65 rfl rfl ?_
          refine Z.iload (pc := 66) (i := 4) dX9_hintsIn_66 rfl ?_
          refine Z.iadd (pc := 68) dX9_hintsIn_68 ?_
          refine Z.top (show _ = nI (A + B) from by rw [et, eB, nI_add]) ?_
          refine Z.istore_n (pc := 69) (i := 2) dX9_hintsIn_69 rfl (by decide) rfl ?_
          refine Z.iinc (pc := 70) (i := 3) (v := (nI (i + 1))) dX9_hintsIn_70 rfl (by exact ii_1 i) (by decide) rfl ?_
          refine Z.goto (pc := 73) (tgt := 4) dX9_hintsIn_73 (by decide) ?_
          first | (refine Z.drop 4 ?_; exact fin; done) | exact fin
        · have q := (far_eq (b := 9) (by decide) (htT_fr ha) c57).symm
          have eX : hiT k s f n hr m = -1 := by rw [← hX, hiR_n c23 hsa ha (Or.inl q)]
          have fin : Z yX9_hintsIn cX9_hintsIn 5 (some .int) 3 (z_eq (some (.int (farI (hiT k s f n hr m)))) h) 4 [(0, .ref 30), (1, .int (nI m)), (2, .int 268435456), (3, .int (nI (i + 1)))] [] h := l_X9_hintsInF hM m (i + 1) ⟨by rw [eX]; rfl, rfl⟩
          refine Z.ldc (pc := 60) dX9_hintsIn_60 zk_X9_173 ?_
          refine Z.goto (pc := 62) (tgt := 69) dX9_hintsIn_62 (by decide) ?_
          refine Z.istore_n (pc := 69) (i := 2) dX9_hintsIn_69 rfl (by decide) rfl ?_
          refine Z.iinc (pc := 70) (i := 3) (v := (nI (i + 1))) dX9_hintsIn_70 rfl (by exact ii_1 i) (by decide) rfl ?_
          refine Z.goto (pc := 73) (tgt := 4) dX9_hintsIn_73 (by decide) ?_
          first | (refine Z.drop 4 ?_; exact fin; done) | exact fin
set_option maxRecDepth 100000 in
set_option maxHeartbeats 400000 in
theorem c_X9_hintsIn {h : hp} {n hr : Nat} {k s f : zF} (hM : Mm h n hr k s f) (m : Nat) (hm : m < 2 ^ n)  : Cn yX9_hintsIn cX9_hintsIn 5 (some .int) 3 [.ref 30, .int (nI m)] h (z_eq (some (.int (farI (hiT k s f n hr m)))) h) := by
  have hn8 := hM.2.2.2.1.1
  have hp8 := p8 hn8
  have hlt := hM.2.2.1
  refine Cn.of (by decide) (Nat.le_of_ble_eq_true rfl) ?_
  refine Z.eqL (lv' := [(0, .ref 30), (1, .int (nI m))]) rfl ?_
  refine Z.iconst (pc := 0) (v := (nI 0)) dX9_hintsIn_0 (by decide) ?_
  refine Z.istore_n (pc := 1) (i := 2) dX9_hintsIn_1 rfl (by decide) rfl ?_
  refine Z.iconst (pc := 2) (v := (nI 0)) dX9_hintsIn_2 (by decide) ?_
  refine Z.istore_n (pc := 3) (i := 3) dX9_hintsIn_3 rfl (by decide) rfl ?_
  exact l_X9_hintsIn hM m hm n 0 0 (by omega) (by omega) (by rw [show n + (8 - n) = 8 by omega]; rfl)
set_option maxRecDepth 100000 in
set_option maxHeartbeats 400000 in
theorem l_X9_homeFor {h : hp} {n hr : Nat} {k s f : zF} (hM : Mm h n hr k s f) (g : Nat) (hg : g < n) : ∀ (r i : Nat) , i + r = hr → Z yX9_homeFor cX9_homeFor 6 (some .int) 4 (z_eq (some (.int (homI k s f n hr g))) h) 5 [(0, .ref 30), (1, .int (nI g)), (2, .int (farI (hoR k s f n hr hm1 i g))), (3, .int (nI (i + 1)))] [] h := by
  have hn8 := hM.2.2.2.1.1
  have hp8 := p8 hn8
  have hlt := hM.2.2.1
  intro r
  induction r with
  | zero =>
    intro i hi
    obtain rfl : hr = i := by omega
    refine Z.iload_n (pc := 5) (i := 3) dX9_homeFor_5 rfl rfl ?_
    refine Z.aload_n (pc := 6) (i := 0) dX9_homeFor_6 rfl rfl ?_
    refine Z.getIv (pc := 7) dX9_homeFor_7 zf_X9_89 rfl rfl hM.2.1 ?_
    refine Z.icmp_gt_t (pc := 10) (tgt := 75) dX9_homeFor_10 (by decide) (nI_lt (by omega) (by omega)) ?_
    refine Z.iload_n (pc := 75) (i := 2) dX9_homeFor_75 rfl rfl ?_
    refine Z.ldc (pc := 76) dX9_homeFor_76 zk_X9_173 ?_
    refine Z.icmp_ne (pc := 78) (tgt := 85) dX9_homeFor_78 (by decide) (fun c78 => ?_) (fun c78 => ?_)
    · have e := far_ne c78
      refine Z.iload_n (pc := 85) (i := 2) dX9_homeFor_85 rfl rfl ?_
      refine Z.iret (pc := 86) (ty := .int) dX9_homeFor_86 rfl rfl ?_
      exact ⟨congrArg (fun x => some (Value.int x)) e, rfl⟩
    · have e := far_eq (b := 72) (by decide) (ho_fr hM.2.2.2.1 hlt _ (Nat.le_refl _)) c78
      refine Z.iconst (pc := 81) (v := (-1)) dX9_homeFor_81 (by decide) ?_
      refine Z.goto (pc := 82) (tgt := 86) dX9_homeFor_82 (by decide) ?_
      refine Z.iret (pc := 86) (ty := .int) dX9_homeFor_86 rfl rfl ?_
      exact ⟨congrArg (fun x => some (Value.int x)) e, rfl⟩
  | succ r ih =>
    intro i hi
    refine Z.iload_n (pc := 5) (i := 3) dX9_homeFor_5 rfl rfl ?_
    refine Z.aload_n (pc := 6) (i := 0) dX9_homeFor_6 rfl rfl ?_
    refine Z.getIv (pc := 7) dX9_homeFor_7 zf_X9_89 rfl rfl hM.2.1 ?_
    refine Z.icmp_gt_f (pc := 10) (tgt := 75) dX9_homeFor_10 (by decide) (nI_nlt (by omega) (by omega)) ?_
    refine Z.iload_n (pc := 13) (i := 3) dX9_homeFor_13 rfl rfl ?_
    refine Z.aload_n (pc := 14) (i := 0) dX9_homeFor_14 rfl rfl ?_
    refine Z.getIv (pc := 15) dX9_homeFor_15 zf_X9_89 rfl rfl hM.2.1 ?_
    refine Z.iconst (pc := 18) (v := (-1)) dX9_homeFor_18 (by decide) ?_
    refine Z.ixor (pc := 19) dX9_homeFor_19 ?_
    refine Z.iand (pc := 20) dX9_homeFor_20 ?_
    refine Z.top (nb_dif _ _) ?_
    refine Z.if_ne (pc := 21) (tgt := 36) dX9_homeFor_21 (by decide) (fun c21 => ?_) (fun c21 => ?_)
    · have q : ¬ dif (i + 1) hr = 0 := fun z => c21 (by rw [z]; rfl)
      have hS := ho_no (g := g) hM.2.2.2.1 hlt (show i ≤ hr by omega) (Or.inl q)
      refine Z.iconst (pc := 36) (v := (0)) dX9_homeFor_36 (by decide) ?_
      refine Z.istore (pc := 37) (i := 4) dX9_homeFor_37 (by decide) rfl ?_
      refine Z.iload (pc := 39) (i := 4) dX9_homeFor_39 rfl ?_
      refine Z.if_eq_t (pc := 41) (tgt := 52) dX9_homeFor_41 (by decide) (by decide) ?_
      refine Z.ldc (pc := 52) dX9_homeFor_52 zk_X9_173 ?_
      refine Z.istore (pc := 54) (i := 5) dX9_homeFor_54 (by decide) rfl ?_
      refine Z.iload (pc := 56) (i := 5) dX9_homeFor_56 rfl ?_
      refine Z.iload_n (pc := 58) (i := 2) dX9_homeFor_58 rfl rfl ?_
      refine Z.icmp_ge (pc := 59) (tgt := 67) dX9_homeFor_59 (by decide) (fun c59 => ?_) (fun c59 => ?_)
      · rw [if_neg (fun z => lt_nle z c59)] at hS
        refine Z.iload_n (pc := 67) (i := 2) dX9_homeFor_67 rfl rfl ?_
        refine Z.top (hS) ?_
        refine Z.istore_n (pc := 68) (i := 2) dX9_homeFor_68 rfl (by decide) rfl ?_
        refine Z.iinc (pc := 69) (i := 3) (v := (nI (i + 1 + 1))) dX9_homeFor_69 rfl (by exact ii_1 (i + 1)) (by decide) rfl ?_
        refine Z.goto (pc := 72) (tgt := 5) dX9_homeFor_72 (by decide) ?_
        refine Z.drop 4 ?_
        refine Z.drop 5 ?_
        exact ih (i + 1) (by omega)
      · rw [if_pos (nle c59)] at hS
        refine Z.iload (pc := 62) (i := 5) dX9_homeFor_62 rfl ?_
        refine Z.top (hS) ?_
        refine Z.goto (pc := 64) (tgt := 68) dX9_homeFor_64 (by decide) ?_
        refine Z.istore_n (pc := 68) (i := 2) dX9_homeFor_68 rfl (by decide) rfl ?_
        refine Z.iinc (pc := 69) (i := 3) (v := (nI (i + 1 + 1))) dX9_homeFor_69 rfl (by exact ii_1 (i + 1)) (by decide) rfl ?_
        refine Z.goto (pc := 72) (tgt := 5) dX9_homeFor_72 (by decide) ?_
        refine Z.drop 4 ?_
        refine Z.drop 5 ?_
        exact ih (i + 1) (by omega)
    · have q : dif (i + 1) hr = 0 := (nI_0' (Nat.lt_of_le_of_lt (dif_le _ _) (by omega))).mp c21
      refine Z.iload_n (pc := 24) (i := 3) dX9_homeFor_24 rfl rfl ?_
      refine Z.iload_n (pc := 25) (i := 1) dX9_homeFor_25 rfl rfl ?_
      refine Z.callSi (pc := 26) dX9_homeFor_26 (c_X9_isIn (i + 1) g (by omega) (by omega)) zm_X9_105 zs_X9_isIn rfl rfl (by decide) (by decide) (Nat.le_of_ble_eq_true rfl) ?_
      refine Z.if_eq_b (pc := 29) (tgt := 36) dX9_homeFor_29 (by decide) (fun c29 => ?_) (fun c29 => ?_)
      · have hS := ho_no (g := g) hM.2.2.2.1 hlt (show i ≤ hr by omega) (Or.inr c29)
        refine Z.iconst (pc := 36) (v := (0)) dX9_homeFor_36 (by decide) ?_
        refine Z.istore (pc := 37) (i := 4) dX9_homeFor_37 (by decide) rfl ?_
        refine Z.iload (pc := 39) (i := 4) dX9_homeFor_39 rfl ?_
        refine Z.if_eq_t (pc := 41) (tgt := 52) dX9_homeFor_41 (by decide) (by decide) ?_
        refine Z.ldc (pc := 52) dX9_homeFor_52 zk_X9_173 ?_
        refine Z.istore (pc := 54) (i := 5) dX9_homeFor_54 (by decide) rfl ?_
        refine Z.iload (pc := 56) (i := 5) dX9_homeFor_56 rfl ?_
        refine Z.iload_n (pc := 58) (i := 2) dX9_homeFor_58 rfl rfl ?_
        refine Z.icmp_ge (pc := 59) (tgt := 67) dX9_homeFor_59 (by decide) (fun c59 => ?_) (fun c59 => ?_)
        · rw [if_neg (fun z => lt_nle z c59)] at hS
          refine Z.iload_n (pc := 67) (i := 2) dX9_homeFor_67 rfl rfl ?_
          refine Z.top (hS) ?_
          refine Z.istore_n (pc := 68) (i := 2) dX9_homeFor_68 rfl (by decide) rfl ?_
          refine Z.iinc (pc := 69) (i := 3) (v := (nI (i + 1 + 1))) dX9_homeFor_69 rfl (by exact ii_1 (i + 1)) (by decide) rfl ?_
          refine Z.goto (pc := 72) (tgt := 5) dX9_homeFor_72 (by decide) ?_
          refine Z.drop 4 ?_
          refine Z.drop 5 ?_
          exact ih (i + 1) (by omega)
        · rw [if_pos (nle c59)] at hS
          refine Z.iload (pc := 62) (i := 5) dX9_homeFor_62 rfl ?_
          refine Z.top (hS) ?_
          refine Z.goto (pc := 64) (tgt := 68) dX9_homeFor_64 (by decide) ?_
          refine Z.istore_n (pc := 68) (i := 2) dX9_homeFor_68 rfl (by decide) rfl ?_
          refine Z.iinc (pc := 69) (i := 3) (v := (nI (i + 1 + 1))) dX9_homeFor_69 rfl (by exact ii_1 (i + 1)) (by decide) rfl ?_
          refine Z.goto (pc := 72) (tgt := 5) dX9_homeFor_72 (by decide) ?_
          refine Z.drop 4 ?_
          refine Z.drop 5 ?_
          exact ih (i + 1) (by omega)
      · have hS := ho_go (g := g) hM.2.2.2.1 hlt (show i + 1 ≤ hr by omega) (by omega) q c29
        refine Z.iconst (pc := 32) (v := (1)) dX9_homeFor_32 (by decide) ?_
        refine Z.goto (pc := 33) (tgt := 37) dX9_homeFor_33 (by decide) ?_
        refine Z.istore (pc := 37) (i := 4) dX9_homeFor_37 (by decide) rfl ?_
        refine Z.iload (pc := 39) (i := 4) dX9_homeFor_39 rfl ?_
        refine Z.if_eq_f (pc := 41) (tgt := 52) dX9_homeFor_41 (by decide) (by decide) ?_
        refine Z.aload_n (pc := 44) (i := 0) dX9_homeFor_44 rfl rfl ?_
        refine Z.iload_n (pc := 45) (i := 3) dX9_homeFor_45 rfl rfl ?_
        refine Z.callVi (pc := 46) dX9_homeFor_46 (c_X9_hintsIn hM (i + 1) (by omega)) zm_X9_177 zv_X9_hintsIn rfl rfl rfl rfl (by decide) (by decide) (Nat.le_of_ble_eq_true rfl) ?_
        refine Z.goto (pc := 49) (tgt := 54) dX9_homeFor_49 (by decide) ?_
        refine Z.istore (pc := 54) (i := 5) dX9_homeFor_54 (by decide) rfl ?_
        refine Z.iload (pc := 56) (i := 5) dX9_homeFor_56 rfl ?_
        refine Z.iload_n (pc := 58) (i := 2) dX9_homeFor_58 rfl rfl ?_
        refine Z.icmp_ge (pc := 59) (tgt := 67) dX9_homeFor_59 (by decide) (fun c59 => ?_) (fun c59 => ?_)
        · rw [if_neg (fun z => lt_nle z c59)] at hS
          refine Z.iload_n (pc := 67) (i := 2) dX9_homeFor_67 rfl rfl ?_
          refine Z.top (hS) ?_
          refine Z.istore_n (pc := 68) (i := 2) dX9_homeFor_68 rfl (by decide) rfl ?_
          refine Z.iinc (pc := 69) (i := 3) (v := (nI (i + 1 + 1))) dX9_homeFor_69 rfl (by exact ii_1 (i + 1)) (by decide) rfl ?_
          refine Z.goto (pc := 72) (tgt := 5) dX9_homeFor_72 (by decide) ?_
          refine Z.drop 4 ?_
          refine Z.drop 5 ?_
          exact ih (i + 1) (by omega)
        · rw [if_pos (nle c59)] at hS
          refine Z.iload (pc := 62) (i := 5) dX9_homeFor_62 rfl ?_
          refine Z.top (hS) ?_
          refine Z.goto (pc := 64) (tgt := 68) dX9_homeFor_64 (by decide) ?_
          refine Z.istore_n (pc := 68) (i := 2) dX9_homeFor_68 rfl (by decide) rfl ?_
          refine Z.iinc (pc := 69) (i := 3) (v := (nI (i + 1 + 1))) dX9_homeFor_69 rfl (by exact ii_1 (i + 1)) (by decide) rfl ?_
          refine Z.goto (pc := 72) (tgt := 5) dX9_homeFor_72 (by decide) ?_
          refine Z.drop 4 ?_
          refine Z.drop 5 ?_
          exact ih (i + 1) (by omega)
set_option maxRecDepth 100000 in
set_option maxHeartbeats 400000 in
theorem c_X9_homeFor {h : hp} {n hr : Nat} {k s f : zF} (hM : Mm h n hr k s f) (g : Nat) (hg : g < n)  : Cn yX9_homeFor cX9_homeFor 6 (some .int) 4 [.ref 30, .int (nI g)] h (z_eq (some (.int (homI k s f n hr g))) h) := by
  have hn8 := hM.2.2.2.1.1
  have hp8 := p8 hn8
  have hlt := hM.2.2.1
  refine Cn.of (by decide) (Nat.le_of_ble_eq_true rfl) ?_
  refine Z.eqL (lv' := [(0, .ref 30), (1, .int (nI g))]) rfl ?_
  refine Z.ldc (pc := 0) dX9_homeFor_0 zk_X9_173 ?_
  refine Z.istore_n (pc := 2) (i := 2) dX9_homeFor_2 rfl (by decide) rfl ?_
  refine Z.iconst (pc := 3) (v := (nI 1)) dX9_homeFor_3 (by decide) ?_
  refine Z.istore_n (pc := 4) (i := 3) dX9_homeFor_4 rfl (by decide) rfl ?_
  exact l_X9_homeFor hM g hg hr 0 (by omega)
