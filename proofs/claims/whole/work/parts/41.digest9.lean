set_option maxRecDepth 100000 in
set_option maxHeartbeats 400000 in
theorem c_X9_mix {h : hp} {V : Int64} (hV : h.2 30 31 = V) (x : Int32)  : Cn yX9_mix cX9_mix 3 none 0 [.ref 30, .long x.toInt64] h (z_eq none (z_upL h 30 31 (mxL V x))) := by
  refine Cn.of (by decide) (Nat.le_of_ble_eq_true rfl) ?_
  refine Z.eqL (lv' := [(0, .ref 30), (1, .long x.toInt64)]) rfl ?_
  refine Z.aload_n (pc := 0) (i := 0) dX9_mix_0 rfl rfl ?_
  refine Z.ldc2 (pc := 1) dX9_mix_1 zk_X9_256 ?_
  refine Z.aload_n (pc := 4) (i := 0) dX9_mix_4 rfl rfl ?_
  refine Z.getL (pc := 5) dX9_mix_5 zf_X9_258 rfl rfl ?_
  refine Z.topl (hV) ?_
  refine Z.lmul (pc := 8) dX9_mix_8 ?_
  refine Z.lload_n (pc := 9) (i := 1) dX9_mix_9 rfl rfl ?_
  refine Z.ladd (pc := 10) dX9_mix_10 ?_
  refine Z.putL (pc := 11) dX9_mix_11 zp_X9_258 rfl rfl ?_
  refine Z.vret (pc := 14) dX9_mix_14 rfl ?_
  exact ⟨rfl, rfl⟩
set_option maxRecDepth 100000 in
set_option maxHeartbeats 400000 in
theorem l_X9_mixParty {h : hp} {n hr fd ho : Nat} {k s f : zF} (hG : MG h n k s f hr fd ho) (shl : hr < 2 ^ n) (sk : Rk n k s f) (V : Int64) : ∀ (r i : Nat) (hh : hp), i + r = n → XQ h hh (mxO n k s f hr V i) → Z yX9_mixParty cX9_mixParty 2 none 7 (fun r hh => r = none ∧ XQ h hh (mxO n k s f hr V n)) 54 [(0, .ref 30), (1, .int (nI i))] [] hh := by
  have hn8 := sk.1
  have hp8 := p8 hn8
  intro r
  induction r with
  | zero =>
    intro i hh hi hX
    obtain rfl : n = i := by omega
    refine Z.iload_n (pc := 54) (i := 1) dX9_mixParty_54 rfl rfl ?_
    refine Z.aload_n (pc := 55) (i := 0) dX9_mixParty_55 rfl rfl ?_
    refine Z.getIv (pc := 56) dX9_mixParty_56 zf_X9_83 rfl rfl (MG_OX hG hX.1).1 ?_
    refine Z.icmp_ge_t (pc := 59) (tgt := 103) dX9_mixParty_59 (by decide) (nI_le (Nat.le_refl _) (by omega)) ?_
    refine Z.vret (pc := 103) dX9_mixParty_103 rfl ?_
    exact ⟨rfl, hX⟩
  | succ r ih =>
    intro i hh hi hX
    have hM := (MG_OX hG hX.1).Mm shl sk
    refine Z.iload_n (pc := 54) (i := 1) dX9_mixParty_54 rfl rfl ?_
    refine Z.aload_n (pc := 55) (i := 0) dX9_mixParty_55 rfl rfl ?_
    refine Z.getIv (pc := 56) dX9_mixParty_56 zf_X9_83 rfl rfl (MG_OX hG hX.1).1 ?_
    refine Z.icmp_ge_f (pc := 59) (tgt := 103) dX9_mixParty_59 (by decide) (nI_ge (by omega) (by omega)) ?_
    refine Z.aload_n (pc := 62) (i := 0) dX9_mixParty_62 rfl rfl ?_
    refine Z.getIv (pc := 63) dX9_mixParty_63 zf_X9_89 rfl rfl (MG_OX hG hX.1).2.1 ?_
    refine Z.iload_n (pc := 66) (i := 1) dX9_mixParty_66 rfl rfl ?_
    refine Z.callSi (pc := 67) dX9_mixParty_67 (c_X9_isIn hr i (by omega) (by omega)) zm_X9_105 zs_X9_isIn rfl rfl (by decide) (by decide) (Nat.le_of_ble_eq_true rfl) ?_
    refine Z.if_eq_b (pc := 70) (tgt := 97) dX9_mixParty_70 (by decide) (fun c70 => ?_) (fun c70 => ?_)
    · have hXn : XQ h hh (mxO n k s f hr V (i + 1)) := by rw [mxO_f c70]; exact hX
      refine Z.iinc (pc := 97) (i := 1) (v := (nI (i + 1))) dX9_mixParty_97 rfl (by exact ii_1 i) (by decide) rfl ?_
      refine Z.goto (pc := 100) (tgt := 54) dX9_mixParty_100 (by decide) ?_
      exact ih (i + 1) _ (by omega) hXn
    · refine Z.aload_n (pc := 73) (i := 0) dX9_mixParty_73 rfl rfl ?_
      refine Z.aload_n (pc := 74) (i := 0) dX9_mixParty_74 rfl rfl ?_
      refine Z.iload_n (pc := 75) (i := 1) dX9_mixParty_75 rfl rfl ?_
      refine Z.iconst (pc := 76) (v := (nI 4)) dX9_mixParty_76 (by decide) ?_
      refine Z.iconst (pc := 77) (v := (0)) dX9_mixParty_77 (by decide) ?_
      refine Z.callVi (pc := 78) dX9_mixParty_78 (c_X9_oddsNow hM i (by omega) c70 4 (by decide) 0) zm_X9_201 zv_X9_oddsNow rfl rfl rfl rfl (by decide) (by decide) (Nat.le_of_ble_eq_true rfl) ?_
      refine Z.top (show _ = oddA k s f n hr i 4 from if_pos rfl) ?_
      refine Z.i2l (pc := 81) dX9_mixParty_81 ?_
      refine Z.callVv (pc := 82) dX9_mixParty_82 (c_X9_mix hX.2 _) zm_X9_261 zv_X9_mix rfl rfl rfl rfl (by decide) (by decide) (Nat.le_of_ble_eq_true rfl) ?_
      have hX1 := XQ_mix (v := oddA k s f n hr i 4) hX
      have hM1 := (MG_OX hG hX1.1).Mm shl sk
      refine Z.aload_n (pc := 85) (i := 0) dX9_mixParty_85 rfl rfl ?_
      refine Z.aload_n (pc := 86) (i := 0) dX9_mixParty_86 rfl rfl ?_
      refine Z.iload_n (pc := 87) (i := 1) dX9_mixParty_87 rfl rfl ?_
      refine Z.iconst (pc := 88) (v := (nI 4)) dX9_mixParty_88 (by decide) ?_
      refine Z.iconst (pc := 89) (v := (1)) dX9_mixParty_89 (by decide) ?_
      refine Z.callVi (pc := 90) dX9_mixParty_90 (c_X9_oddsNow hM1 i (by omega) c70 4 (by decide) 1) zm_X9_201 zv_X9_oddsNow rfl rfl rfl rfl (by decide) (by decide) (Nat.le_of_ble_eq_true rfl) ?_
      refine Z.top (show _ = oddB k s f n hr i 4 from if_neg (by decide)) ?_
      refine Z.i2l (pc := 93) dX9_mixParty_93 ?_
      refine Z.callVv (pc := 94) dX9_mixParty_94 (c_X9_mix hX1.2 _) zm_X9_261 zv_X9_mix rfl rfl rfl rfl (by decide) (by decide) (Nat.le_of_ble_eq_true rfl) ?_
      have hXn := XQ_mix (v := oddB k s f n hr i 4) hX1
      rw [mxO_t c70] at hXn ⊢
      refine Z.iinc (pc := 97) (i := 1) (v := (nI (i + 1))) dX9_mixParty_97 rfl (by exact ii_1 i) (by decide) rfl ?_
      refine Z.goto (pc := 100) (tgt := 54) dX9_mixParty_100 (by decide) ?_
      exact ih (i + 1) _ (by omega) hXn
set_option maxRecDepth 100000 in
set_option maxHeartbeats 400000 in
theorem c_X9_mixParty {h hh : hp} {n hr fd ho : Nat} {k s f : zF} (hG : MG h n k s f hr fd ho) (shl : hr < 2 ^ n) (sk : Rk n k s f) (sfd : fd ≤ 99) (zs : dZ8 s) {V : Int64} (hX : XQ h hh V)  : Cn yX9_mixParty cX9_mixParty 2 none 7 [.ref 30] hh (fun r h2 => r = none ∧ XQ h h2 (mxO n k s f hr (mxW n k s f hr fd V) n)) := by
  have hn8 := sk.1
  have hp8 := p8 hn8
  have hM := (MG_OX hG hX.1).Mm shl sk
  refine Cn.of (by decide) (Nat.le_of_ble_eq_true rfl) ?_
  refine Z.eqL (lv' := [(0, .ref 30)]) rfl ?_
  refine Z.aload_n (pc := 0) (i := 0) dX9_mixParty_0 rfl rfl ?_
  refine Z.aload_n (pc := 1) (i := 0) dX9_mixParty_1 rfl rfl ?_
  refine Z.aload_n (pc := 2) (i := 0) dX9_mixParty_2 rfl rfl ?_
  refine Z.getIv (pc := 3) dX9_mixParty_3 zf_X9_89 rfl rfl (MG_OX hG hX.1).2.1 ?_
  refine Z.callVi (pc := 6) dX9_mixParty_6 (c_X9_mostOf hM hr shl) zm_X9_167 zv_X9_mostOf rfl rfl rfl rfl (by decide) (by decide) (Nat.le_of_ble_eq_true rfl) ?_
  refine Z.i2l (pc := 9) dX9_mixParty_9 ?_
  refine Z.callVv (pc := 10) dX9_mixParty_10 (c_X9_mix hX.2 _) zm_X9_261 zv_X9_mix rfl rfl rfl rfl (by decide) (by decide) (Nat.le_of_ble_eq_true rfl) ?_
  have hX1 := XQ_mix (v := nI (mst k s f n hr hr)) hX
  have hM1 := (MG_OX hG hX1.1).Mm shl sk
  refine Z.aload_n (pc := 13) (i := 0) dX9_mixParty_13 rfl rfl ?_
  refine Z.aload_n (pc := 14) (i := 0) dX9_mixParty_14 rfl rfl ?_
  refine Z.callVi (pc := 15) dX9_mixParty_15 (c_X9_leastNow hM1) zm_X9_170 zv_X9_leastNow rfl rfl rfl rfl (by decide) (by decide) (Nat.le_of_ble_eq_true rfl) ?_
  refine Z.i2l (pc := 18) dX9_mixParty_18 ?_
  refine Z.callVv (pc := 19) dX9_mixParty_19 (c_X9_mix hX1.2 _) zm_X9_261 zv_X9_mix rfl rfl rfl rfl (by decide) (by decide) (Nat.le_of_ble_eq_true rfl) ?_
  have hX2 := XQ_mix (v := nI (lsF (riB k s f n hr) hr)) hX1
  have hM2 := (MG_OX hG hX2.1).Mm shl sk
  refine Z.aload_n (pc := 22) (i := 0) dX9_mixParty_22 rfl rfl ?_
  refine Z.aload_n (pc := 23) (i := 0) dX9_mixParty_23 rfl rfl ?_
  refine Z.callVi (pc := 24) dX9_mixParty_24 (c_X9_hired hM2) zm_X9_180 zv_X9_hired rfl rfl rfl rfl (by decide) (by decide) (Nat.le_of_ble_eq_true rfl) ?_
  refine Z.callSi (pc := 27) dX9_mixParty_27 (c_X9_size _ (Nat.lt_of_le_of_lt (dif_le _ _) (by omega))) zm_X9_154 zs_X9_size rfl rfl (by decide) (by decide) (Nat.le_of_ble_eq_true rfl) ?_
  refine Z.i2l (pc := 30) dX9_mixParty_30 ?_
  refine Z.callVv (pc := 31) dX9_mixParty_31 (c_X9_mix hX2.2 _) zm_X9_261 zv_X9_mix rfl rfl rfl rfl (by decide) (by decide) (Nat.le_of_ble_eq_true rfl) ?_
  have hX3 := XQ_mix (v := nI (pop (hirN k s f n hr))) hX2
  have hM3 := (MG_OX hG hX3.1).Mm shl sk
  refine Z.aload_n (pc := 34) (i := 0) dX9_mixParty_34 rfl rfl ?_
  refine Z.aload_n (pc := 35) (i := 0) dX9_mixParty_35 rfl rfl ?_
  refine Z.callVi (pc := 36) dX9_mixParty_36 (c_X9_hired hM3) zm_X9_180 zv_X9_hired rfl rfl rfl rfl (by decide) (by decide) (Nat.le_of_ble_eq_true rfl) ?_
  refine Z.i2l (pc := 39) dX9_mixParty_39 ?_
  refine Z.callVv (pc := 40) dX9_mixParty_40 (c_X9_mix hX3.2 _) zm_X9_261 zv_X9_mix rfl rfl rfl rfl (by decide) (by decide) (Nat.le_of_ble_eq_true rfl) ?_
  have hX4 := XQ_mix (v := nI (hirN k s f n hr)) hX3
  have hM4 := (MG_OX hG hX4.1).Mm shl sk
  refine Z.aload_n (pc := 43) (i := 0) dX9_mixParty_43 rfl rfl ?_
  refine Z.aload_n (pc := 44) (i := 0) dX9_mixParty_44 rfl rfl ?_
  refine Z.callV (pc := 45) dX9_mixParty_45 (c_X9_endsNow hM4 (MG_OX hG hX4.1).2.2.1 sfd zs hX4.1.2.2.1) zm_X9_195 zv_X9_endsNow rfl rfl rfl rfl (by decide) (by decide) (Nat.le_of_ble_eq_true rfl) (fun r45 h45 k45 => ?_)
  obtain ⟨e, hO⟩ := k45
  subst e
  have hX5 := XQ_OM hX4 hO
  refine Z.i2l (pc := 48) dX9_mixParty_48 ?_
  refine Z.callVv (pc := 49) dX9_mixParty_49 (c_X9_mix hX5.2 _) zm_X9_261 zv_X9_mix rfl rfl rfl rfl (by decide) (by decide) (Nat.le_of_ble_eq_true rfl) ?_
  have hX6 := XQ_mix (v := enI k f n 61 0 (s, hr, fd)) hX5
  refine Z.iconst (pc := 52) (v := (nI 0)) dX9_mixParty_52 (by decide) ?_
  refine Z.istore_n (pc := 53) (i := 1) dX9_mixParty_53 rfl (by decide) rfl ?_
  exact l_X9_mixParty hG shl sk (mxW n k s f hr fd V) n 0 _ (by omega) hX6
set_option maxRecDepth 100000 in
set_option maxHeartbeats 400000 in
theorem l_X9_dig1 {h : hp} {n hr fd ho : Nat} {k s f : zF} (hG : MG h n k s f hr fd ho) (shl : hr < 2 ^ n) (sk : Rk n k s f) {sz : Nat} {sg so se : zF} (hE : Me h sz sg so se) (sE : okE sz sg so se) {K : Option Value → hp → Prop} (g : Nat) (hg : g < n) (x : Int64) (hk : ∀ hh, XQ h hh (mxG n k s f hr sz sg so se g x 9) → Z yX9_digest cX9_digest 3 (some .long) 8 K 42 [(0, .ref 30), (1, .int (nI g))] [] hh) : ∀ (r i : Nat) (hh : hp), i + r = 9 → XQ h hh (mxG n k s f hr sz sg so se g x i) → Z yX9_digest cX9_digest 3 (some .long) 8 (K) 19 [(0, .ref 30), (1, .int (nI g)), (2, .int (nI i))] [] hh := by
  intro r
  induction r with
  | zero =>
    intro i hh hi hX
    obtain rfl : 9 = i := by omega
    refine Z.iload_n (pc := 19) (i := 2) dX9_digest_19 rfl rfl ?_
    refine Z.bipush (pc := 20) (v := (nI 9)) dX9_digest_20 (by decide) ?_
    refine Z.icmp_ge_t (pc := 22) (tgt := 42) dX9_digest_22 (by decide) (nI_le (Nat.le_refl _) (by decide)) ?_
    refine Z.drop 2 ?_
    exact hk hh hX
  | succ r ih =>
    intro i hh hi hX
    have hM := (MG_OX hG hX.1).Mm shl sk
    refine Z.iload_n (pc := 19) (i := 2) dX9_digest_19 rfl rfl ?_
    refine Z.bipush (pc := 20) (v := (nI 9)) dX9_digest_20 (by decide) ?_
    refine Z.icmp_ge_f (pc := 22) (tgt := 42) dX9_digest_22 (by decide) (nI_ge (by omega) (by decide)) ?_
    refine Z.aload_n (pc := 25) (i := 0) dX9_digest_25 rfl rfl ?_
    refine Z.aload_n (pc := 26) (i := 0) dX9_digest_26 rfl rfl ?_
    refine Z.iload_n (pc := 27) (i := 1) dX9_digest_27 rfl rfl ?_
    refine Z.iload_n (pc := 28) (i := 2) dX9_digest_28 rfl rfl ?_
    refine Z.callVi (pc := 29) dX9_digest_29 (c_X9_guestNow hM (Me_OX hE hX.1) sE g hg i (by omega)) zm_X9_148 zv_X9_guestNow rfl rfl rfl rfl (by decide) (by decide) (Nat.le_of_ble_eq_true rfl) ?_
    refine Z.i2l (pc := 32) dX9_digest_32 ?_
    refine Z.callVv (pc := 33) dX9_digest_33 (c_X9_mix hX.2 _) zm_X9_261 zv_X9_mix rfl rfl rfl rfl (by decide) (by decide) (Nat.le_of_ble_eq_true rfl) ?_
    refine Z.iinc (pc := 36) (i := 2) (v := (nI (i + 1))) dX9_digest_36 rfl (by exact ii_1 i) (by decide) rfl ?_
    refine Z.goto (pc := 39) (tgt := 19) dX9_digest_39 (by decide) ?_
    exact ih (i + 1) _ (by omega) (XQ_mix hX)
set_option maxRecDepth 100000 in
set_option maxHeartbeats 400000 in
theorem l_X9_dig2 {h : hp} {n hr fd ho : Nat} {k s f : zF} (hG : MG h n k s f hr fd ho) (shl : hr < 2 ^ n) (sk : Rk n k s f) {sz : Nat} {sg so se : zF} (hE : Me h sz sg so se) (sE : okE sz sg so se) {K : Option Value → hp → Prop} (hk : ∀ hh, XQ h hh (mxA n k s f hr sz sg so se 1277 n) → Z yX9_digest cX9_digest 3 (some .long) 8 K 48 [(0, .ref 30)] [] hh) : ∀ (r i : Nat) (hh : hp), i + r = n → XQ h hh (mxA n k s f hr sz sg so se 1277 i) → Z yX9_digest cX9_digest 3 (some .long) 8 (K) 9 [(0, .ref 30), (1, .int (nI i))] [] hh := by
  have hn8 := sk.1
  have hp8 := p8 hn8
  intro r
  induction r with
  | zero =>
    intro i hh hi hX
    obtain rfl : n = i := by omega
    refine Z.iload_n (pc := 9) (i := 1) dX9_digest_9 rfl rfl ?_
    refine Z.aload_n (pc := 10) (i := 0) dX9_digest_10 rfl rfl ?_
    refine Z.getIv (pc := 11) dX9_digest_11 zf_X9_83 rfl rfl (MG_OX hG hX.1).1 ?_
    refine Z.icmp_ge_t (pc := 14) (tgt := 48) dX9_digest_14 (by decide) (nI_le (Nat.le_refl _) (by omega)) ?_
    refine Z.drop 1 ?_
    exact hk hh hX
  | succ r ih =>
    intro i hh hi hX
    refine Z.iload_n (pc := 9) (i := 1) dX9_digest_9 rfl rfl ?_
    refine Z.aload_n (pc := 10) (i := 0) dX9_digest_10 rfl rfl ?_
    refine Z.getIv (pc := 11) dX9_digest_11 zf_X9_83 rfl rfl (MG_OX hG hX.1).1 ?_
    refine Z.icmp_ge_f (pc := 14) (tgt := 48) dX9_digest_14 (by decide) (nI_ge (by omega) (by omega)) ?_
    refine Z.iconst (pc := 17) (v := (nI 0)) dX9_digest_17 (by decide) ?_
    refine Z.istore_n (pc := 18) (i := 2) dX9_digest_18 rfl (by decide) rfl ?_
    refine l_X9_dig1 hG shl sk hE sE i (by omega) (mxA n k s f hr sz sg so se 1277 i) (fun hh2 hX2 => ?_) 9 0 hh rfl hX
    refine Z.iinc (pc := 42) (i := 1) (v := (nI (i + 1))) dX9_digest_42 rfl (by exact ii_1 i) (by decide) rfl ?_
    refine Z.goto (pc := 45) (tgt := 9) dX9_digest_45 (by decide) ?_
    exact ih (i + 1) hh2 (by omega) hX2
set_option maxRecDepth 100000 in
set_option maxHeartbeats 400000 in
theorem l_X9_dig3 {h : hp} {len : Nat} {pg : zF} (hP : MP h len pg) (hl : len ≤ 36) {K : Option Value → hp → Prop} (x : Int64) (hk : ∀ hh, XQ h hh (mxP pg x len) → Z yX9_digest cX9_digest 3 (some .long) 8 K 86 [(0, .ref 30)] [] hh) : ∀ (r i : Nat) (hh : hp), i + r = len → XQ h hh (mxP pg x i) → Z yX9_digest cX9_digest 3 (some .long) 8 (K) 61 [(0, .ref 30), (1, .int (nI i))] [] hh := by
  intro r
  induction r with
  | zero =>
    intro i hh hi hX
    obtain rfl : len = i := by omega
    refine Z.iload_n (pc := 61) (i := 1) dX9_digest_61 rfl rfl ?_
    refine Z.aload_n (pc := 62) (i := 0) dX9_digest_62 rfl rfl ?_
    refine Z.getIv (pc := 63) dX9_digest_63 zf_X9_54 rfl rfl (MP_OX hP hX.1).1 ?_
    refine Z.icmp_ge_t (pc := 66) (tgt := 86) dX9_digest_66 (by decide) (nI_le (Nat.le_refl _) (by omega)) ?_
    refine Z.drop 1 ?_
    exact hk hh hX
  | succ r ih =>
    intro i hh hi hX
    refine Z.iload_n (pc := 61) (i := 1) dX9_digest_61 rfl rfl ?_
    refine Z.aload_n (pc := 62) (i := 0) dX9_digest_62 rfl rfl ?_
    refine Z.getIv (pc := 63) dX9_digest_63 zf_X9_54 rfl rfl (MP_OX hP hX.1).1 ?_
    refine Z.icmp_ge_f (pc := 66) (tgt := 86) dX9_digest_66 (by decide) (nI_ge (by omega) (by omega)) ?_
    refine Z.aload_n (pc := 69) (i := 0) dX9_digest_69 rfl rfl ?_
    refine Z.aload_n (pc := 70) (i := 0) dX9_digest_70 rfl rfl ?_
    refine Z.getR (pc := 71) dX9_digest_71 zf_X9_28 rfl rfl ?_
    refine Z.iload_n (pc := 74) (i := 1) dX9_digest_74 rfl rfl ?_
    refine Z.bald (pc := 75) dX9_digest_75 rfl (by omega) (by decide) ?_
    refine Z.top (show _ = pg i from congrFun (MP_OX hP hX.1).2 i) ?_
    refine Z.i2l (pc := 76) dX9_digest_76 ?_
    refine Z.callVv (pc := 77) dX9_digest_77 (c_X9_mix hX.2 _) zm_X9_261 zv_X9_mix rfl rfl rfl rfl (by decide) (by decide) (Nat.le_of_ble_eq_true rfl) ?_
    refine Z.iinc (pc := 80) (i := 1) (v := (nI (i + 1))) dX9_digest_80 rfl (by exact ii_1 i) (by decide) rfl ?_
    refine Z.goto (pc := 83) (tgt := 61) dX9_digest_83 (by decide) ?_
    exact ih (i + 1) _ (by omega) (XQ_mix hX)
set_option maxRecDepth 100000 in
set_option maxHeartbeats 400000 in
theorem l_X9_dig4 {h : hp} {n hr fd ho : Nat} {k s f : zF} (hG : MG h n k s f hr fd ho) (shl : hr < 2 ^ n) (sk : Rk n k s f) {sz : Nat} {sg so se : zF} (hE : Me h sz sg so se) {len np : Nat} {pg : zF} (hP : MP h len pg) (hK0 : h.1 30 0 = nI np) {K : Option Value → hp → Prop} (x : Int64) (hk : ∀ hh, XQ h hh (mxC len n k s f hr fd ho sz np x 10) → K (some (.long (mxC len n k s f hr fd ho sz np x 10))) hh) : ∀ (r i : Nat) (hh : hp), i + r = 10 → XQ h hh (mxC len n k s f hr fd ho sz np x i) → Z yX9_digest cX9_digest 3 (some .long) 8 (K) 88 [(0, .ref 30), (1, .int (nI i))] [] hh := by
  intro r
  induction r with
  | zero =>
    intro i hh hi hX
    obtain rfl : 10 = i := by omega
    refine Z.iload_n (pc := 88) (i := 1) dX9_digest_88 rfl rfl ?_
    refine Z.bipush (pc := 89) (v := (nI 10)) dX9_digest_89 (by decide) ?_
    refine Z.icmp_ge_t (pc := 91) (tgt := 110) dX9_digest_91 (by decide) (nI_le (Nat.le_refl _) (by decide)) ?_
    refine Z.aload_n (pc := 110) (i := 0) dX9_digest_110 rfl rfl ?_
    refine Z.getL (pc := 111) dX9_digest_111 zf_X9_258 rfl rfl ?_
    refine Z.topl (hX.2) ?_
    refine Z.lret (pc := 114) dX9_digest_114 rfl ?_
    exact hk hh hX
  | succ r ih =>
    intro i hh hi hX
    have hM := (MG_OX hG hX.1).Mm shl sk
    refine Z.iload_n (pc := 88) (i := 1) dX9_digest_88 rfl rfl ?_
    refine Z.bipush (pc := 89) (v := (nI 10)) dX9_digest_89 (by decide) ?_
    refine Z.icmp_ge_f (pc := 91) (tgt := 110) dX9_digest_91 (by decide) (nI_ge (by omega) (by decide)) ?_
    refine Z.aload_n (pc := 94) (i := 0) dX9_digest_94 rfl rfl ?_
    refine Z.aload_n (pc := 95) (i := 0) dX9_digest_95 rfl rfl ?_
    refine Z.iload_n (pc := 96) (i := 1) dX9_digest_96 rfl rfl ?_
    refine Z.callVi (pc := 97) dX9_digest_97 (c_X9_howMany hM (MP_OX hP hX.1) (MG_OX hG hX.1) (Me_OX hE hX.1) ((hX.1.2.1 0 (by decide)).trans hK0) i (by omega)) zm_X9_253 zv_X9_howMany rfl rfl rfl rfl (by decide) (by decide) (Nat.le_of_ble_eq_true rfl) ?_
    refine Z.i2l (pc := 100) dX9_digest_100 ?_
    refine Z.callVv (pc := 101) dX9_digest_101 (c_X9_mix hX.2 _) zm_X9_261 zv_X9_mix rfl rfl rfl rfl (by decide) (by decide) (Nat.le_of_ble_eq_true rfl) ?_
    refine Z.iinc (pc := 104) (i := 1) (v := (nI (i + 1))) dX9_digest_104 rfl (by exact ii_1 i) (by decide) rfl ?_
    refine Z.goto (pc := 107) (tgt := 88) dX9_digest_107 (by decide) ?_
    exact ih (i + 1) _ (by omega) (XQ_mix hX)
set_option maxRecDepth 100000 in
set_option maxHeartbeats 400000 in
theorem c_X9_digest {h : hp} {len n hr fd ho sz ihr ifd iho isz np : Nat} {pg k s f sg so se ik js isg iso ise : zF} {kept : Bool} (hD : MS h ((len, pg), (n, k, s, f, hr, fd, ho), (sz, sg, so, se), kept, (ihr, ik, js, ifd, iho, (isz, isg, iso, ise)), np)) (hS : OkS ((len, pg), (n, k, s, f, hr, fd, ho), (sz, sg, so, se), kept, (ihr, ik, js, ifd, iho, (isz, isg, iso, ise)), np))  : Cn yX9_digest cX9_digest 3 (some .long) 8 [.ref 30] h (KM h (.long (a_digest ((len, pg), (n, k, s, f, hr, fd, ho), (sz, sg, so, se), kept, (ihr, ik, js, ifd, iho, (isz, isg, iso, ise)), np)).1) (a_digest ((len, pg), (n, k, s, f, hr, fd, ho), (sz, sg, so, se), kept, (ihr, ik, js, ifd, iho, (isz, isg, iso, ise)), np)).2) := by
  obtain ⟨hP, hG, hE, hK, hI, hX⟩ := id hD
  obtain ⟨⟨sp1, sp2⟩, ⟨sk, shl, sfd, sho, zk, zs, zf⟩, sE, sI⟩ := id hS
  have hM := hG.Mm shl sk
  have hn8 := sk.1
  have hp8 := p8 hn8
  refine Cn.of (by decide) (Nat.le_of_ble_eq_true rfl) ?_
  refine Z.eqL (lv' := [(0, .ref 30)]) rfl ?_
  refine Z.aload_n (pc := 0) (i := 0) dX9_digest_0 rfl rfl ?_
  refine Z.ldc2 (pc := 1) dX9_digest_1 zk_X9_265 ?_
  refine Z.putL (pc := 4) dX9_digest_4 zp_X9_258 rfl rfl ?_
  refine Z.iconst (pc := 7) (v := (nI 0)) dX9_digest_7 (by decide) ?_
  refine Z.istore_n (pc := 8) (i := 1) dX9_digest_8 rfl (by decide) rfl ?_
  have hX0 : XQ h (z_upL h 30 31 1277) 1277 := ⟨OX_upL (OX_rf hX.1), upL_at⟩
  refine l_X9_dig2 hG shl sk hE sE (fun h2 hX2 => ?_) n 0 _ (by omega) hX0
  refine Z.aload_n (pc := 48) (i := 0) dX9_digest_48 rfl rfl ?_
  refine Z.getIv (pc := 49) dX9_digest_49 zf_X9_83 rfl rfl (MG_OX hG hX2.1).1 ?_
  refine Z.if_le (pc := 52) (tgt := 59) dX9_digest_52 (by decide) (fun c52 => ?_) (fun c52 => ?_)
  · have n0 : n = 0 := by have : ¬ 0 < n := fun z => nI_nle z (by omega) c52; omega
    have hX2 : XQ h h2 1277 := by subst n0; exact hX2
    refine Z.iconst (pc := 59) (v := (nI 0)) dX9_digest_59 (by decide) ?_
    refine Z.istore_n (pc := 60) (i := 1) dX9_digest_60 rfl (by decide) rfl ?_
    refine l_X9_dig3 hP sp1 1277 (fun h3 hX3 => ?_) len 0 _ (by omega) hX2
    refine Z.iconst (pc := 86) (v := (nI 0)) dX9_digest_86 (by decide) ?_
    refine Z.istore_n (pc := 87) (i := 1) dX9_digest_87 rfl (by decide) rfl ?_
    refine l_X9_dig4 hG shl sk hE hP hK.1 (mxP pg 1277 len) (fun h4 hX4 => ?_) 10 0 _ rfl hX3
    obtain ⟨g1, g2⟩ := MS_OX hD hX4.1
    exact kml (S' := ((len, pg), (n, k, s, f, hr, fd, ho), (sz, sg, so, se), kept, (ihr, ik, js, ifd, iho, (isz, isg, iso, ise)), np)) (by simp only [a_digest, if_pos n0]) g1 g2
  · have n0 : ¬ n = 0 := fun z => c52 (by rw [z]; decide)
    refine Z.aload_n (pc := 55) (i := 0) dX9_digest_55 rfl rfl ?_
    refine Z.callV (pc := 56) dX9_digest_56 (c_X9_mixParty hG shl sk sfd zs hX2) zm_X9_267 zv_X9_mixParty rfl rfl rfl rfl (by decide) (by decide) (Nat.le_of_ble_eq_true rfl) (fun r56 h56 k56 => ?_)
    obtain ⟨e, hX5⟩ := k56
    subst e
    refine Z.iconst (pc := 59) (v := (nI 0)) dX9_digest_59 (by decide) ?_
    refine Z.istore_n (pc := 60) (i := 1) dX9_digest_60 rfl (by decide) rfl ?_
    refine l_X9_dig3 hP sp1 _ (fun h3 hX3 => ?_) len 0 _ (by omega) hX5
    refine Z.iconst (pc := 86) (v := (nI 0)) dX9_digest_86 (by decide) ?_
    refine Z.istore_n (pc := 87) (i := 1) dX9_digest_87 rfl (by decide) rfl ?_
    refine l_X9_dig4 hG shl sk hE hP hK.1 (mxP pg _ len) (fun h4 hX4 => ?_) 10 0 _ rfl hX3
    obtain ⟨g1, g2⟩ := MS_OX hD hX4.1
    exact kml (S' := ((len, pg), (n, k, s, f, hr, fd, ho), (sz, sg, so, se), kept, (ihr, ik, js, ifd, iho, (isz, isg, iso, ise)), np)) (by simp only [a_digest, if_neg n0]) g1 g2
