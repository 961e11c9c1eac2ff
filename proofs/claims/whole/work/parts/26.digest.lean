set_option maxRecDepth 100000 in
set_option maxHeartbeats 400000 in
theorem c_X8_mix {h : hp} (a b : Int64)  : Cn yX8_mix cX8_mix 4 (some .long) 0 [.long a, .long b] h (z_eq (some (.long (31 * a + b))) h) := by
  refine Cn.of (by decide) (Nat.le_of_ble_eq_true rfl) ?_
  refine Z.eqL (lv' := [(0, .long a), (2, .long b)]) rfl ?_
  refine Z.ldc2 (pc := 0) dX8_mix_0 zk_X8_262 ?_
  refine Z.lload_n (pc := 3) (i := 0) dX8_mix_3 rfl rfl ?_
  refine Z.lmul (pc := 4) dX8_mix_4 ?_
  refine Z.lload_n (pc := 5) (i := 2) dX8_mix_5 rfl rfl ?_
  refine Z.ladd (pc := 6) dX8_mix_6 ?_
  refine Z.lret (pc := 7) dX8_mix_7 rfl ?_
  exact ⟨rfl, rfl⟩
set_option maxRecDepth 100000 in
set_option maxHeartbeats 400000 in
theorem c_X8_mostR {h : hp} {n hr : Nat} {k s f : zF} (hR : Rm h 3 n hr k s f) (n1 : 0 < n)  : Cn yX8_most cX8_most 1 (some .int) 4 [.ref 0] h (z_eq (some (.int (nI (mst k s f n hr hr)))) h) := by
  refine Cn.of (by decide) (Nat.le_of_ble_eq_true rfl) ?_
  refine Z.eqL (lv' := [(0, .ref 0)]) rfl ?_
  refine Z.aload_n (pc := 0) (i := 0) dX8_most_0 rfl rfl ?_
  refine Z.callVi (pc := 1) dX8_most_1 (c_X8_hasParty hR.1 hR.2.2.2.1.1) zm_X8_140 zv_X8_hasParty rfl rfl rfl rfl (by decide) (by decide) (Nat.le_of_ble_eq_true rfl) ?_
  refine Z.if_ne_bt (pc := 4) (tgt := 10) dX8_most_4 (by decide) (decide_eq_true n1) ?_
  refine Z.aload_n (pc := 10) (i := 0) dX8_most_10 rfl rfl ?_
  refine Z.getR (pc := 11) dX8_most_11 zf_X8_19 rfl rfl ?_
  refine Z.callVi (pc := 14) dX8_most_14 (c_X6_mostWhoRise (o := 3) (Or.inl rfl) hR) zm_X8_162 zv_X6_mostWhoRise rfl rfl rfl rfl (by decide) (by decide) (Nat.le_of_ble_eq_true rfl) ?_
  refine Z.iret (pc := 17) (ty := .int) dX8_most_17 rfl rfl ?_
  exact ⟨rfl, rfl⟩
set_option maxRecDepth 100000 in
set_option maxHeartbeats 400000 in
theorem c_X8_hire0 {h : hp} {n hr : Nat} {k s f : zF} (hR : Rm h 3 n hr k s f) (n1 : 0 < n)  : Cn yX8_hire cX8_hire 2 (some .int) 4 [.ref 0, .int 0] h (z_eq (some (.int (nI (pop (hirN k s f n hr))))) h) := by
  refine Cn.of (by decide) (Nat.le_of_ble_eq_true rfl) ?_
  refine Z.eqL (lv' := [(0, .ref 0), (1, .int 0)]) rfl ?_
  refine Z.iload_n (pc := 0) (i := 1) dX8_hire_0 rfl rfl ?_
  refine Z.if_lt_f (pc := 1) (tgt := 9) dX8_hire_1 (by decide) (by decide) ?_
  refine Z.iload_n (pc := 4) (i := 1) dX8_hire_4 rfl rfl ?_
  refine Z.iconst (pc := 5) (v := (1)) dX8_hire_5 (by decide) ?_
  refine Z.icmp_le_t (pc := 6) (tgt := 12) dX8_hire_6 (by decide) (by decide) ?_
  refine Z.aload_n (pc := 12) (i := 0) dX8_hire_12 rfl rfl ?_
  refine Z.callVi (pc := 13) dX8_hire_13 (c_X8_hasParty hR.1 hR.2.2.2.1.1) zm_X8_140 zv_X8_hasParty rfl rfl rfl rfl (by decide) (by decide) (Nat.le_of_ble_eq_true rfl) ?_
  refine Z.if_ne_bt (pc := 16) (tgt := 22) dX8_hire_16 (by decide) (decide_eq_true n1) ?_
  refine Z.iload_n (pc := 22) (i := 1) dX8_hire_22 rfl rfl ?_
  refine Z.if_ne_f (pc := 23) (tgt := 36) dX8_hire_23 (by decide) (rfl) ?_
  refine Z.aload_n (pc := 26) (i := 0) dX8_hire_26 rfl rfl ?_
  refine Z.callVi (pc := 27) dX8_hire_27 (c_X8_whoShouldBePale hR) zm_X8_169 zv_X8_whoShouldBePale rfl rfl rfl rfl (by decide) (by decide) (Nat.le_of_ble_eq_true rfl) ?_
  refine Z.callSi (pc := 30) dX8_hire_30 (c_J6_bitCount_0f7a4 _ (Nat.lt_of_le_of_lt (dif_le _ _) (Nat.lt_of_lt_of_le hR.2.2.1 (Nat.le_trans (p8 hR.2.2.2.1.1) (by decide))))) zm_X8_135 zs_J6_bitCount_0f7a4 rfl rfl (by decide) (by decide) (Nat.le_of_ble_eq_true rfl) ?_
  refine Z.goto (pc := 33) (tgt := 40) dX8_hire_33 (by decide) ?_
  refine Z.iret (pc := 40) (ty := .int) dX8_hire_40 rfl rfl ?_
  exact ⟨rfl, rfl⟩
set_option maxRecDepth 100000 in
set_option maxHeartbeats 400000 in
theorem c_X8_hire1 {h : hp} {n hr : Nat} {k s f : zF} (hR : Rm h 3 n hr k s f) (n1 : 0 < n)  : Cn yX8_hire cX8_hire 2 (some .int) 4 [.ref 0, .int 1] h (z_eq (some (.int (nI (hirN k s f n hr)))) h) := by
  refine Cn.of (by decide) (Nat.le_of_ble_eq_true rfl) ?_
  refine Z.eqL (lv' := [(0, .ref 0), (1, .int 1)]) rfl ?_
  refine Z.iload_n (pc := 0) (i := 1) dX8_hire_0 rfl rfl ?_
  refine Z.if_lt_f (pc := 1) (tgt := 9) dX8_hire_1 (by decide) (by decide) ?_
  refine Z.iload_n (pc := 4) (i := 1) dX8_hire_4 rfl rfl ?_
  refine Z.iconst (pc := 5) (v := (1)) dX8_hire_5 (by decide) ?_
  refine Z.icmp_le_t (pc := 6) (tgt := 12) dX8_hire_6 (by decide) (by decide) ?_
  refine Z.aload_n (pc := 12) (i := 0) dX8_hire_12 rfl rfl ?_
  refine Z.callVi (pc := 13) dX8_hire_13 (c_X8_hasParty hR.1 hR.2.2.2.1.1) zm_X8_140 zv_X8_hasParty rfl rfl rfl rfl (by decide) (by decide) (Nat.le_of_ble_eq_true rfl) ?_
  refine Z.if_ne_bt (pc := 16) (tgt := 22) dX8_hire_16 (by decide) (decide_eq_true n1) ?_
  refine Z.iload_n (pc := 22) (i := 1) dX8_hire_22 rfl rfl ?_
  refine Z.if_ne_t (pc := 23) (tgt := 36) dX8_hire_23 (by decide) (by decide) ?_
  refine Z.aload_n (pc := 36) (i := 0) dX8_hire_36 rfl rfl ?_
  refine Z.callVi (pc := 37) dX8_hire_37 (c_X8_whoShouldBePale hR) zm_X8_169 zv_X8_whoShouldBePale rfl rfl rfl rfl (by decide) (by decide) (Nat.le_of_ble_eq_true rfl) ?_
  refine Z.iret (pc := 40) (ty := .int) dX8_hire_40 rfl rfl ?_
  exact ⟨rfl, rfl⟩
set_option maxRecDepth 100000 in
set_option maxHeartbeats 400000 in
theorem c_X8_endsR {h : hp} {n hr : Nat} {k s f : zF} (hR : Rm h 3 n hr k s f) (n1 : 0 < n) {fd : Nat} (hfd : h.1 3 5 = nI fd) (sfd : fd ≤ 99) (zs : dZ8 s) (z1 : va_cpy (h.1 4) (h.1 20) 0 0 8 = h.1 4) (z2 : va_cpy (h.1 5) (h.1 21) 0 0 8 = h.1 5) (z3 : va_cpy (h.1 6) (h.1 22) 0 0 8 = h.1 6)  : Cn yX8_ends cX8_ends 2 (some .int) 5 [.ref 0] h (fun r hh => r = some (.int (enI k f n 61 0 (s, hr, fd))) ∧ ∃ st, TR h n k f hh st) := by
  refine Cn.of (by decide) (Nat.le_of_ble_eq_true rfl) ?_
  refine Z.eqL (lv' := [(0, .ref 0)]) rfl ?_
  refine Z.aload_n (pc := 0) (i := 0) dX8_ends_0 rfl rfl ?_
  refine Z.callVi (pc := 1) dX8_ends_1 (c_X8_hasParty hR.1 hR.2.2.2.1.1) zm_X8_140 zv_X8_hasParty rfl rfl rfl rfl (by decide) (by decide) (Nat.le_of_ble_eq_true rfl) ?_
  refine Z.if_ne_bt (pc := 4) (tgt := 10) dX8_ends_4 (by decide) (decide_eq_true n1) ?_
  refine Z.aload_n (pc := 10) (i := 0) dX8_ends_10 rfl rfl ?_
  refine Z.getR (pc := 11) dX8_ends_11 zf_X8_36 rfl rfl ?_
  refine Z.aload_n (pc := 14) (i := 0) dX8_ends_14 rfl rfl ?_
  refine Z.getR (pc := 15) dX8_ends_15 zf_X8_19 rfl rfl ?_
  refine Z.callVv (pc := 18) dX8_ends_18 (c_X6_copyFrom_19_3 z1 z2 z3) zm_X8_172 zv_X6_copyFrom rfl rfl rfl rfl (by decide) (by decide) (Nat.le_of_ble_eq_true rfl) ?_
  refine Z.iconst (pc := 21) (v := (nI 0)) dX8_ends_21 (by decide) ?_
  refine Z.istore_n (pc := 22) (i := 1) dX8_ends_22 rfl (by decide) rfl ?_
  exact l_X8_ends (X := enI k f n 61 0 (s, hr, fd)) (fun hh st hT => ⟨rfl, st, hT⟩) 61 0 _ (s, hr, fd) rfl (TR_0 hR hfd sfd zs) rfl
set_option maxRecDepth 100000 in
set_option maxHeartbeats 400000 in
theorem l_X8_mixOdds {h : hp} {n hr : Nat} {k s f : zF} (hR : Rm h 3 n hr k s f) (h23 : h.1 23 1 = nI hr) (hT : TB k s f n hr (hr + 1) (h.1 24)) (a : Int64) : ∀ (r i : Nat) (hh : hp), i + r = n → OD h hh → Z yX8_mixOdds cX8_mixOdds 6 (some .long) 3 (fun r hh => r = some (.long (mxO n k s f hr a n)) ∧ OD h hh) 5 [(0, .ref 0), (1, .long a), (3, .long (mxO n k s f hr a i)), (5, .int (nI i))] [] hh := by
  have hn8 := hR.2.2.2.1.1
  have hp8 := p8 hn8
  have hlt := hR.2.2.1
  intro r
  induction r with
  | zero =>
    intro i hh hi hO
    obtain rfl : n = i := by omega
    refine Z.iload (pc := 5) (i := 5) dX8_mixOdds_5 rfl ?_
    refine Z.aload_n (pc := 7) (i := 0) dX8_mixOdds_7 rfl rfl ?_
    refine Z.getR (pc := 8) dX8_mixOdds_8 zf_X8_19 rfl rfl ?_
    refine Z.getIv (pc := 11) dX8_mixOdds_11 zf_X8_98 rfl rfl (Rm_OD hR hO).1 ?_
    refine Z.icmp_ge_t (pc := 14) (tgt := 75) dX8_mixOdds_14 (by decide) (nI_le (Nat.le_refl _) (by omega)) ?_
    refine Z.lload_n (pc := 75) (i := 3) dX8_mixOdds_75 rfl rfl ?_
    refine Z.lret (pc := 76) dX8_mixOdds_76 rfl ?_
    exact ⟨rfl, hO⟩
  | succ r ih =>
    intro i hh hi hO
    have hRo := Rm_OD hR hO
    refine Z.iload (pc := 5) (i := 5) dX8_mixOdds_5 rfl ?_
    refine Z.aload_n (pc := 7) (i := 0) dX8_mixOdds_7 rfl rfl ?_
    refine Z.getR (pc := 8) dX8_mixOdds_8 zf_X8_19 rfl rfl ?_
    refine Z.getIv (pc := 11) dX8_mixOdds_11 zf_X8_98 rfl rfl hRo.1 ?_
    refine Z.icmp_ge_f (pc := 14) (tgt := 75) dX8_mixOdds_14 (by decide) (nI_ge (by omega) (by omega)) ?_
    refine Z.aload_n (pc := 17) (i := 0) dX8_mixOdds_17 rfl rfl ?_
    refine Z.getR (pc := 18) dX8_mixOdds_18 zf_X8_19 rfl rfl ?_
    refine Z.iload (pc := 21) (i := 5) dX8_mixOdds_21 rfl ?_
    refine Z.callVi (pc := 23) dX8_mixOdds_23 (c_X6_isHere (o := 3) (Or.inl rfl) hRo i (by omega)) zm_X8_149 zv_X6_isHere rfl rfl rfl rfl (by decide) (by decide) (Nat.le_of_ble_eq_true rfl) ?_
    refine Z.if_eq_b (pc := 26) (tgt := 69) dX8_mixOdds_26 (by decide) (fun c26 => ?_) (fun c26 => ?_)
    · rw [← mxO_f (n := n) (k := k) (s := s) (f := f) (h0 := a) c26]
      refine Z.iinc (pc := 69) (i := 5) (v := (nI (i + 1))) dX8_mixOdds_69 rfl (by exact ii_1 i) (by decide) rfl ?_
      refine Z.goto (pc := 72) (tgt := 5) dX8_mixOdds_72 (by decide) ?_
      first | exact ih (i + 1) _ (by omega) hO | exact ih (i + 1) _ (by omega) (OD_ch hO)
    · have hpp : 1 ≤ pop hr := pop_pos (by omega) (fun z => by rw [z, Nat.zero_testBit] at c26; cases c26)
      refine Z.aload_n (pc := 29) (i := 0) dX8_mixOdds_29 rfl rfl ?_
      refine Z.getR (pc := 30) dX8_mixOdds_30 zf_X8_49 rfl rfl ?_
      refine Z.aload_n (pc := 33) (i := 0) dX8_mixOdds_33 rfl rfl ?_
      refine Z.getR (pc := 34) dX8_mixOdds_34 zf_X8_42 rfl rfl ?_
      refine Z.iload (pc := 37) (i := 5) dX8_mixOdds_37 rfl ?_
      refine Z.iconst (pc := 39) (v := (nI 4)) dX8_mixOdds_39 (by decide) ?_
      refine Z.callVv (pc := 40) dX8_mixOdds_40 (c_X0_find (k := k) (s := s) (f := f) (n := n) (by rw [hO.1 23 (by decide)]; exact h23) (by omega) (by rw [hO.1 24 (by decide)]; exact hT) i 4 (by omega) (by decide) hpp) zm_X8_175 zv_X0_find rfl rfl rfl rfl (by decide) (by decide) (Nat.le_of_ble_eq_true rfl) ?_
      refine Z.lload_n (pc := 43) (i := 3) dX8_mixOdds_43 rfl rfl ?_
      refine Z.aload_n (pc := 44) (i := 0) dX8_mixOdds_44 rfl rfl ?_
      refine Z.getR (pc := 45) dX8_mixOdds_45 zf_X8_49 rfl rfl ?_
      refine Z.getIv (pc := 48) dX8_mixOdds_48 zf_X8_178 rfl rfl (show _ = oddA k s f n hr i 4 from rfl) ?_
      refine Z.i2l (pc := 51) dX8_mixOdds_51 ?_
      refine Z.callSi (pc := 52) dX8_mixOdds_52 (c_X8_mix _ _) zm_X8_222 zs_X8_mix rfl rfl (by decide) (by decide) (Nat.le_of_ble_eq_true rfl) ?_
      refine Z.lstore_n (pc := 55) (i := 3) dX8_mixOdds_55 rfl (by decide) rfl ?_
      refine Z.lload_n (pc := 56) (i := 3) dX8_mixOdds_56 rfl rfl ?_
      refine Z.aload_n (pc := 57) (i := 0) dX8_mixOdds_57 rfl rfl ?_
      refine Z.getR (pc := 58) dX8_mixOdds_58 zf_X8_49 rfl rfl ?_
      refine Z.getIv (pc := 61) dX8_mixOdds_61 zf_X8_181 rfl rfl (show _ = oddB k s f n hr i 4 from rfl) ?_
      refine Z.i2l (pc := 64) dX8_mixOdds_64 ?_
      refine Z.callSi (pc := 65) dX8_mixOdds_65 (c_X8_mix _ _) zm_X8_222 zs_X8_mix rfl rfl (by decide) (by decide) (Nat.le_of_ble_eq_true rfl) ?_
      refine Z.topl (mxO_t c26) ?_
      refine Z.lstore_n (pc := 68) (i := 3) dX8_mixOdds_68 rfl (by decide) rfl ?_
      refine Z.iinc (pc := 69) (i := 5) (v := (nI (i + 1))) dX8_mixOdds_69 rfl (by exact ii_1 i) (by decide) rfl ?_
      refine Z.goto (pc := 72) (tgt := 5) dX8_mixOdds_72 (by decide) ?_
      first | exact ih (i + 1) _ (by omega) hO | exact ih (i + 1) _ (by omega) (OD_ch hO)
set_option maxRecDepth 100000 in
set_option maxHeartbeats 400000 in
theorem c_X8_mixOdds {h : hp} {n hr : Nat} {k s f : zF} (hR : Rm h 3 n hr k s f) (h23 : h.1 23 1 = nI hr) (hT : TB k s f n hr (hr + 1) (h.1 24)) (a : Int64)  : Cn yX8_mixOdds cX8_mixOdds 6 (some .long) 3 [.ref 0, .long a] h (fun r hh => r = some (.long (mxO n k s f hr a n)) ∧ OD h hh) := by
  refine Cn.of (by decide) (Nat.le_of_ble_eq_true rfl) ?_
  refine Z.eqL (lv' := [(0, .ref 0), (1, .long a)]) rfl ?_
  refine Z.lload_n (pc := 0) (i := 1) dX8_mixOdds_0 rfl rfl ?_
  refine Z.lstore_n (pc := 1) (i := 3) dX8_mixOdds_1 rfl (by decide) rfl ?_
  refine Z.iconst (pc := 2) (v := (nI 0)) dX8_mixOdds_2 (by decide) ?_
  refine Z.istore (pc := 3) (i := 5) dX8_mixOdds_3 (by decide) rfl ?_
  exact l_X8_mixOdds hR h23 hT a n 0 h (by omega) OD_rf
set_option maxRecDepth 100000 in
set_option maxHeartbeats 400000 in
theorem l_X8_mixG {h : hp} {n hr sz : Nat} {k s f sg so se : zF} (hR : Rm h 3 n hr k s f) (hE : DE h sz sg so se) (sE : sz ≤ 6) (hH : ∀ j, j < n → h.1 28 j = homI k s f n hr j) {K : Option Value → hp → Prop} (a x : Int64) (g : Nat) (hg : g < n) (hk : Z yX8_mixGuests cX8_mixGuests 7 (some .long) 4 K 54 [(0, .ref 0), (1, .long a), (3, .long (mxG n k s f hr sz sg so se g x 9)), (5, .int (nI g)), (6, .int (nI 9))] [] h) : ∀ (r i : Nat) , i + r = 9 → Z yX8_mixGuests cX8_mixGuests 7 (some .long) 4 (K) 27 [(0, .ref 0), (1, .long a), (3, .long (mxG n k s f hr sz sg so se g x i)), (5, .int (nI g)), (6, .int (nI i))] [] h := by
  intro r
  induction r with
  | zero =>
    intro i hi
    obtain rfl : 9 = i := by omega
    refine Z.iload (pc := 27) (i := 6) dX8_mixGuests_27 rfl ?_
    refine Z.bipush (pc := 29) (v := (nI 8)) dX8_mixGuests_29 (by decide) ?_
    refine Z.icmp_gt_t (pc := 31) (tgt := 54) dX8_mixGuests_31 (by decide) (nI_lt (by omega) (by omega)) ?_
    exact hk
  | succ r ih =>
    intro i hi
    refine Z.iload (pc := 27) (i := 6) dX8_mixGuests_27 rfl ?_
    refine Z.bipush (pc := 29) (v := (nI 8)) dX8_mixGuests_29 (by decide) ?_
    refine Z.icmp_gt_f (pc := 31) (tgt := 54) dX8_mixGuests_31 (by decide) (nI_nlt (by omega) (by decide)) ?_
    refine Z.lload_n (pc := 34) (i := 3) dX8_mixGuests_34 rfl rfl ?_
    refine Z.aload_n (pc := 35) (i := 0) dX8_mixGuests_35 rfl rfl ?_
    refine Z.iload (pc := 36) (i := 5) dX8_mixGuests_36 rfl ?_
    refine Z.iload (pc := 38) (i := 6) dX8_mixGuests_38 rfl ?_
    refine Z.callVi (pc := 40) dX8_mixGuests_40 (c_X8_tellOfGuest hR hE sE g hg i (by omega) (fun _ => hH g hg)) zm_X8_109 zv_X8_tellOfGuest rfl rfl rfl rfl (by decide) (by decide) (Nat.le_of_ble_eq_true rfl) ?_
    refine Z.i2l (pc := 43) dX8_mixGuests_43 ?_
    refine Z.callSi (pc := 44) dX8_mixGuests_44 (c_X8_mix _ _) zm_X8_222 zs_X8_mix rfl rfl (by decide) (by decide) (Nat.le_of_ble_eq_true rfl) ?_
    refine Z.topl (show _ = mxG n k s f hr sz sg so se g x (i + 1) from rfl) ?_
    refine Z.lstore_n (pc := 47) (i := 3) dX8_mixGuests_47 rfl (by decide) rfl ?_
    refine Z.iinc (pc := 48) (i := 6) (v := (nI (i + 1))) dX8_mixGuests_48 rfl (by exact ii_1 i) (by decide) rfl ?_
    refine Z.goto (pc := 51) (tgt := 27) dX8_mixGuests_51 (by decide) ?_
    exact ih (i + 1) (by omega)
set_option maxRecDepth 100000 in
set_option maxHeartbeats 400000 in
theorem l_X8_mixGuests {h : hp} {n hr sz : Nat} {k s f sg so se : zF} (hR : Rm h 3 n hr k s f) (hE : DE h sz sg so se) (sE : sz ≤ 6) (hH : ∀ j, j < n → h.1 28 j = homI k s f n hr j) (a : Int64) : ∀ (r i : Nat) , i + r = n → Z yX8_mixGuests cX8_mixGuests 7 (some .long) 4 (z_eq (some (.long (mxA n k s f hr sz sg so se a n))) h) 5 [(0, .ref 0), (1, .long a), (3, .long (mxA n k s f hr sz sg so se a i)), (5, .int (nI i))] [] h := by
  have hn8 := hR.2.2.2.1.1
  intro r
  induction r with
  | zero =>
    intro i hi
    obtain rfl : n = i := by omega
    refine Z.iload (pc := 5) (i := 5) dX8_mixGuests_5 rfl ?_
    refine Z.aload_n (pc := 7) (i := 0) dX8_mixGuests_7 rfl rfl ?_
    refine Z.getR (pc := 8) dX8_mixGuests_8 zf_X8_19 rfl rfl ?_
    refine Z.getIv (pc := 11) dX8_mixGuests_11 zf_X8_98 rfl rfl hR.1 ?_
    refine Z.icmp_ge_t (pc := 14) (tgt := 60) dX8_mixGuests_14 (by decide) (nI_le (Nat.le_refl _) (by omega)) ?_
    refine Z.lload_n (pc := 60) (i := 3) dX8_mixGuests_60 rfl rfl ?_
    refine Z.lret (pc := 61) dX8_mixGuests_61 rfl ?_
    exact ⟨rfl, rfl⟩
  | succ r ih =>
    intro i hi
    refine Z.iload (pc := 5) (i := 5) dX8_mixGuests_5 rfl ?_
    refine Z.aload_n (pc := 7) (i := 0) dX8_mixGuests_7 rfl rfl ?_
    refine Z.getR (pc := 8) dX8_mixGuests_8 zf_X8_19 rfl rfl ?_
    refine Z.getIv (pc := 11) dX8_mixGuests_11 zf_X8_98 rfl rfl hR.1 ?_
    refine Z.icmp_ge_f (pc := 14) (tgt := 60) dX8_mixGuests_14 (by decide) (nI_ge (by omega) (by omega)) ?_
    refine Z.iload (pc := 17) (i := 5) dX8_mixGuests_17 rfl ?_
    refine Z.bipush (pc := 19) (v := (nI 8)) dX8_mixGuests_19 (by decide) ?_
    refine Z.icmp_ge_f (pc := 21) (tgt := 60) dX8_mixGuests_21 (by decide) (nI_ge (b := 8) (by omega) (by decide)) ?_
    refine Z.iconst (pc := 24) (v := (nI 0)) dX8_mixGuests_24 (by decide) ?_
    refine Z.istore (pc := 25) (i := 6) dX8_mixGuests_25 (by decide) rfl ?_
    refine l_X8_mixG hR hE sE hH a (mxA n k s f hr sz sg so se a i) i (by omega) ?_ 9 0 rfl
    refine Z.iinc (pc := 54) (i := 5) (v := (nI (i + 1))) dX8_mixGuests_54 rfl (by exact ii_1 i) (by decide) rfl ?_
    refine Z.goto (pc := 57) (tgt := 5) dX8_mixGuests_57 (by decide) ?_
    refine Z.drop 6 ?_
    exact ih (i + 1) (by omega)
set_option maxRecDepth 100000 in
set_option maxHeartbeats 400000 in
theorem c_X8_mixGuests {h : hp} {n hr sz : Nat} {k s f sg so se : zF} (hR : Rm h 3 n hr k s f) (hE : DE h sz sg so se) (sE : sz ≤ 6) (hH : ∀ j, j < n → h.1 28 j = homI k s f n hr j) (a : Int64)  : Cn yX8_mixGuests cX8_mixGuests 7 (some .long) 4 [.ref 0, .long a] h (z_eq (some (.long (mxA n k s f hr sz sg so se a n))) h) := by
  refine Cn.of (by decide) (Nat.le_of_ble_eq_true rfl) ?_
  refine Z.eqL (lv' := [(0, .ref 0), (1, .long a)]) rfl ?_
  refine Z.lload_n (pc := 0) (i := 1) dX8_mixGuests_0 rfl rfl ?_
  refine Z.lstore_n (pc := 1) (i := 3) dX8_mixGuests_1 rfl (by decide) rfl ?_
  refine Z.iconst (pc := 2) (v := (nI 0)) dX8_mixGuests_2 (by decide) ?_
  refine Z.istore (pc := 3) (i := 5) dX8_mixGuests_3 (by decide) rfl ?_
  exact l_X8_mixGuests hR hE sE hH a n 0 (by omega)
set_option maxRecDepth 100000 in
set_option maxHeartbeats 400000 in
theorem l_X8_digest2 {h : hp} {len n hr fd ho sz ihr ifd iho isz np : Nat} {pg k s f sg so se ik js isg iso ise : zF} {kept : Bool} (hS : OkS ((len, pg), (n, k, s, f, hr, fd, ho), (sz, sg, so, se), kept, (ihr, ik, js, ifd, iho, (isz, isg, iso, ise)), np)) {X : Int64} {hh : hp} (hDh : D hh ((len, pg), (n, k, s, f, hr, fd, ho), (sz, sg, so, se), kept, (ihr, ik, js, ifd, iho, (isz, isg, iso, ise)), np)) (hfr : fr30 h hh) (x : Int64) (hx : mxC len n k s f hr fd ho sz np x 10 = X) : ∀ (r i : Nat) , i + r = 10 → Z yX8_digest cX8_digest 4 (some .long) 7 (KD h (.long X) ((len, pg), (n, k, s, f, hr, fd, ho), (sz, sg, so, se), kept, (ihr, ik, js, ifd, iho, (isz, isg, iso, ise)), np)) 135 [(0, .ref 0), (1, .long (mxC len n k s f hr fd ho sz np x i)), (3, .int (nI i))] [] hh := by
  obtain ⟨hP, hG, hE, hK, hI, hX⟩ := id hDh
  obtain ⟨⟨sp1, sp2⟩, ⟨sk, shl, sfd, sho, zk, zs, zf⟩, sE, sI⟩ := id hS
  intro r
  induction r with
  | zero =>
    intro i hi
    obtain rfl : 10 = i := by omega
    refine Z.iload_n (pc := 135) (i := 3) dX8_digest_135 rfl rfl ?_
    refine Z.bipush (pc := 136) (v := (nI 9)) dX8_digest_136 (by decide) ?_
    refine Z.icmp_gt_t (pc := 138) (tgt := 158) dX8_digest_138 (by decide) (nI_lt (by omega) (by omega)) ?_
    refine Z.lload_n (pc := 158) (i := 1) dX8_digest_158 rfl rfl ?_
    refine Z.lret (pc := 159) dX8_digest_159 rfl ?_
    rw [hx]
    exact ⟨rfl, hDh, hfr⟩
  | succ r ih =>
    intro i hi
    refine Z.iload_n (pc := 135) (i := 3) dX8_digest_135 rfl rfl ?_
    refine Z.bipush (pc := 136) (v := (nI 9)) dX8_digest_136 (by decide) ?_
    refine Z.icmp_gt_f (pc := 138) (tgt := 158) dX8_digest_138 (by decide) (nI_nlt (by omega) (by decide)) ?_
    refine Z.lload_n (pc := 141) (i := 1) dX8_digest_141 rfl rfl ?_
    refine Z.aload_n (pc := 142) (i := 0) dX8_digest_142 rfl rfl ?_
    refine Z.iload_n (pc := 143) (i := 3) dX8_digest_143 rfl rfl ?_
    refine Z.callVi (pc := 144) dX8_digest_144 (c_X8_countN hP.1 (hG.Rm shl sk) hG.2.2.1 hG.2.2.2.1 hE.1 hK.2 i (by omega)) zm_X8_238 zv_X8_count rfl rfl rfl rfl (by decide) (by decide) (Nat.le_of_ble_eq_true rfl) ?_
    refine Z.i2l (pc := 147) dX8_digest_147 ?_
    refine Z.callSi (pc := 148) dX8_digest_148 (c_X8_mix _ _) zm_X8_222 zs_X8_mix rfl rfl (by decide) (by decide) (Nat.le_of_ble_eq_true rfl) ?_
    refine Z.topl (show _ = mxC len n k s f hr fd ho sz np x (i + 1) from rfl) ?_
    refine Z.lstore_n (pc := 151) (i := 1) dX8_digest_151 rfl (by decide) rfl ?_
    refine Z.iinc (pc := 152) (i := 3) (v := (nI (i + 1))) dX8_digest_152 rfl (by exact ii_1 i) (by decide) rfl ?_
    refine Z.goto (pc := 155) (tgt := 135) dX8_digest_155 (by decide) ?_
    exact ih (i + 1) (by omega)
set_option maxRecDepth 100000 in
set_option maxHeartbeats 400000 in
theorem l_X8_digest1 {h : hp} {len n hr fd ho sz ihr ifd iho isz np : Nat} {pg k s f sg so se ik js isg iso ise : zF} {kept : Bool} (hS : OkS ((len, pg), (n, k, s, f, hr, fd, ho), (sz, sg, so, se), kept, (ihr, ik, js, ifd, iho, (isz, isg, iso, ise)), np)) {X : Int64} {hh : hp} (hDh : D hh ((len, pg), (n, k, s, f, hr, fd, ho), (sz, sg, so, se), kept, (ihr, ik, js, ifd, iho, (isz, isg, iso, ise)), np)) (hfr : fr30 h hh) (x : Int64) (hx : mxC len n k s f hr fd ho sz np (mxP pg x len) 10 = X) : ∀ (r i : Nat) , i + r = len → Z yX8_digest cX8_digest 4 (some .long) 7 (KD h (.long X) ((len, pg), (n, k, s, f, hr, fd, ho), (sz, sg, so, se), kept, (ihr, ik, js, ifd, iho, (isz, isg, iso, ise)), np)) 102 [(0, .ref 0), (1, .long (mxP pg x i)), (3, .int (nI i))] [] hh := by
  obtain ⟨hP, hG, hE, hK, hI, hX⟩ := id hDh
  obtain ⟨⟨sp1, sp2⟩, ⟨sk, shl, sfd, sho, zk, zs, zf⟩, sE, sI⟩ := id hS
  intro r
  induction r with
  | zero =>
    intro i hi
    obtain rfl : len = i := by omega
    refine Z.iload_n (pc := 102) (i := 3) dX8_digest_102 rfl rfl ?_
    refine Z.aload_n (pc := 103) (i := 0) dX8_digest_103 rfl rfl ?_
    refine Z.getR (pc := 104) dX8_digest_104 zf_X8_10 rfl rfl ?_
    refine Z.getIv (pc := 107) dX8_digest_107 zf_X8_67 rfl rfl hP.1 ?_
    refine Z.icmp_ge_t (pc := 110) (tgt := 133) dX8_digest_110 (by decide) (nI_le (Nat.le_refl _) (by omega)) ?_
    refine Z.iconst (pc := 133) (v := (nI 0)) dX8_digest_133 (by decide) ?_
    refine Z.istore_n (pc := 134) (i := 3) dX8_digest_134 rfl (by decide) rfl ?_
    exact l_X8_digest2 hS hDh hfr (mxP pg x len) hx 10 0 rfl
  | succ r ih =>
    intro i hi
    refine Z.iload_n (pc := 102) (i := 3) dX8_digest_102 rfl rfl ?_
    refine Z.aload_n (pc := 103) (i := 0) dX8_digest_103 rfl rfl ?_
    refine Z.getR (pc := 104) dX8_digest_104 zf_X8_10 rfl rfl ?_
    refine Z.getIv (pc := 107) dX8_digest_107 zf_X8_67 rfl rfl hP.1 ?_
    refine Z.icmp_ge_f (pc := 110) (tgt := 133) dX8_digest_110 (by decide) (nI_ge (by omega) (by omega)) ?_
    refine Z.lload_n (pc := 113) (i := 1) dX8_digest_113 rfl rfl ?_
    refine Z.aload_n (pc := 114) (i := 0) dX8_digest_114 rfl rfl ?_
    refine Z.getR (pc := 115) dX8_digest_115 zf_X8_10 rfl rfl ?_
    refine Z.iload_n (pc := 118) (i := 3) dX8_digest_118 rfl rfl ?_
    refine Z.callVi (pc := 119) dX8_digest_119 (c_X4_at hP.1 sp1 i (by omega)) zm_X8_235 zv_X4_at rfl rfl rfl rfl (by decide) (by decide) (Nat.le_of_ble_eq_true rfl) ?_
    refine Z.top (show _ = pg i from congrFun hP.2 i) ?_
    refine Z.i2l (pc := 122) dX8_digest_122 ?_
    refine Z.callSi (pc := 123) dX8_digest_123 (c_X8_mix _ _) zm_X8_222 zs_X8_mix rfl rfl (by decide) (by decide) (Nat.le_of_ble_eq_true rfl) ?_
    refine Z.topl (show _ = mxP pg x (i + 1) from rfl) ?_
    refine Z.lstore_n (pc := 126) (i := 1) dX8_digest_126 rfl (by decide) rfl ?_
    refine Z.iinc (pc := 127) (i := 3) (v := (nI (i + 1))) dX8_digest_127 rfl (by exact ii_1 i) (by decide) rfl ?_
    refine Z.goto (pc := 130) (tgt := 102) dX8_digest_130 (by decide) ?_
    exact ih (i + 1) (by omega)
set_option maxRecDepth 100000 in
set_option maxHeartbeats 400000 in
theorem c_X8_digest {h : hp} {len n hr fd ho sz ihr ifd iho isz np : Nat} {pg k s f sg so se ik js isg iso ise : zF} {kept : Bool} (hD : D h ((len, pg), (n, k, s, f, hr, fd, ho), (sz, sg, so, se), kept, (ihr, ik, js, ifd, iho, (isz, isg, iso, ise)), np)) (hS : OkS ((len, pg), (n, k, s, f, hr, fd, ho), (sz, sg, so, se), kept, (ihr, ik, js, ifd, iho, (isz, isg, iso, ise)), np))  : Cn yX8_digest cX8_digest 4 (some .long) 7 [.ref 0] h (KD h (.long (a_digest ((len, pg), (n, k, s, f, hr, fd, ho), (sz, sg, so, se), kept, (ihr, ik, js, ifd, iho, (isz, isg, iso, ise)), np)).1) (a_digest ((len, pg), (n, k, s, f, hr, fd, ho), (sz, sg, so, se), kept, (ihr, ik, js, ifd, iho, (isz, isg, iso, ise)), np)).2) := by
  obtain ⟨hP, hG, hE, hK, hI, hX⟩ := id hD
  obtain ⟨⟨sp1, sp2⟩, ⟨sk, shl, sfd, sho, zk, zs, zf⟩, sE, sI⟩ := id hS
  have hR := hG.Rm shl sk
  have hn8 := sk.1
  have hp8 := p8 hn8
  have z1 : va_cpy (h.1 4) (h.1 20) 0 0 8 = h.1 4 := cpy8 (by rw [hG.2.2.2.2.1]; exact zk) hX.2.2.2.2.1
  have z2 : va_cpy (h.1 5) (h.1 21) 0 0 8 = h.1 5 := cpy8 (by rw [hG.2.2.2.2.2.1]; exact zs) hX.2.2.2.2.2.1
  have z3 : va_cpy (h.1 6) (h.1 22) 0 0 8 = h.1 6 := cpy8 (by rw [hG.2.2.2.2.2.2]; exact zf) hX.2.2.2.2.2.2.1
  refine Cn.of (by decide) (Nat.le_of_ble_eq_true rfl) ?_
  refine Z.eqL (lv' := [(0, .ref 0)]) rfl ?_
  refine Z.ldc2 (pc := 0) dX8_digest_0 zk_X8_213 ?_
  refine Z.lstore_n (pc := 3) (i := 1) dX8_digest_3 rfl (by decide) rfl ?_
  refine Z.aload_n (pc := 4) (i := 0) dX8_digest_4 rfl rfl ?_
  refine Z.callVi (pc := 5) dX8_digest_5 (c_X8_hasParty hG.1 hn8) zm_X8_140 zv_X8_hasParty rfl rfl rfl rfl (by decide) (by decide) (Nat.le_of_ble_eq_true rfl) ?_
  refine Z.if_eq_b (pc := 8) (tgt := 100) dX8_digest_8 (by decide) (fun c8 => ?_) (fun c8 => ?_)
  · have n0 : n = 0 := by have := of_decide_eq_false c8; omega
    refine Z.iconst (pc := 100) (v := (nI 0)) dX8_digest_100 (by decide) ?_
    refine Z.istore_n (pc := 101) (i := 3) dX8_digest_101 rfl (by decide) rfl ?_
    exact l_X8_digest1 hS hD fr_rf 1277 (by simp only [a_digest, if_pos n0]) len 0 (by omega)
  · have n1 : 0 < n := of_decide_eq_true c8
    have n0 : ¬ n = 0 := by omega
    have hR1 : Rm (z_row h 28 (hoT k s f n hr (h.1 28))) 3 n hr k s f := Rm_out hR (by decide) (by decide) (by decide) (by decide)
    refine Z.aload_n (pc := 11) (i := 0) dX8_digest_11 rfl rfl ?_
    refine Z.getR (pc := 12) dX8_digest_12 zf_X8_56 rfl rfl ?_
    refine Z.aload_n (pc := 15) (i := 0) dX8_digest_15 rfl rfl ?_
    refine Z.getR (pc := 16) dX8_digest_16 zf_X8_19 rfl rfl ?_
    refine Z.callVv (pc := 19) dX8_digest_19 (c_X2_find hR) zm_X8_105 zv_X2_find rfl rfl rfl rfl (by decide) (by decide) (Nat.le_of_ble_eq_true rfl) ?_
    refine Z.aload_n (pc := 22) (i := 0) dX8_digest_22 rfl rfl ?_
    refine Z.getR (pc := 23) dX8_digest_23 zf_X8_42 rfl rfl ?_
    refine Z.aload_n (pc := 26) (i := 0) dX8_digest_26 rfl rfl ?_
    refine Z.getR (pc := 27) dX8_digest_27 zf_X8_19 rfl rfl ?_
    refine Z.callV (pc := 30) dX8_digest_30 (c_X5_find hR1 (by exact hX.1)) zm_X8_165 zv_X5_find rfl rfl rfl rfl (by decide) (by decide) (Nat.le_of_ble_eq_true rfl) (fun r30 h30 k30 => ?_)
    obtain ⟨rfl, t, rfl, hT⟩ := k30
    have hR2 : Rm (z_row (z_up (z_row h 28 (hoT k s f n hr (h.1 28))) 23 1 (nI hr)) 24 t) 3 n hr k s f := Rm_out (Rm_out (r := 23) (t := upd ((z_row h 28 (hoT k s f n hr (h.1 28))).1 23) 1 (nI hr)) hR1 (by decide) (by decide) (by decide) (by decide)) (by decide) (by decide) (by decide) (by decide)
    have hE2 : DE (z_row (z_up (z_row h 28 (hoT k s f n hr (h.1 28))) 23 1 (nI hr)) 24 t) sz sg so se := hE.mv rfl rfl rfl rfl
    have hD2 : D (z_row (z_up (z_row h 28 (hoT k s f n hr (h.1 28))) 23 1 (nI hr)) 24 t) ((len, pg), (n, k, s, f, hr, fd, ho), (sz, sg, so, se), kept, (ihr, ik, js, ifd, iho, (isz, isg, iso, ise)), np) := ⟨hP.mv rfl rfl, hG.mv rfl rfl rfl rfl, hE.mv rfl rfl rfl rfl, hK.mv rfl, hI.mv rfl rfl rfl rfl rfl rfl rfl rfl, hX.mv (show t 0 = 0 from TB_0 hT) rfl rfl rfl rfl rfl rfl hX.2.2.2.2.1 hX.2.2.2.2.2.1 hX.2.2.2.2.2.2.1⟩
    have f2 : fr30 h (z_row (z_up (z_row h 28 (hoT k s f n hr (h.1 28))) 23 1 (nI hr)) 24 t) := fr_row (fr_up (fr_row fr_rf (by decide)) (by decide)) (by decide)
    refine Z.aload_n (pc := 33) (i := 0) dX8_digest_33 rfl rfl ?_
    refine Z.lload_n (pc := 34) (i := 1) dX8_digest_34 rfl rfl ?_
    refine Z.callVi (pc := 35) dX8_digest_35 (c_X8_mixGuests hR2 hE2 sE.1 (fun j hj => show hoT k s f n hr (h.1 28) j = _ from hoT_hom (by omega)) _) zm_X8_215 zv_X8_mixGuests rfl rfl rfl rfl (by decide) (by decide) (Nat.le_of_ble_eq_true rfl) ?_
    refine Z.lstore_n (pc := 38) (i := 1) dX8_digest_38 rfl (by decide) rfl ?_
    refine Z.lload_n (pc := 39) (i := 1) dX8_digest_39 rfl rfl ?_
    refine Z.aload_n (pc := 40) (i := 0) dX8_digest_40 rfl rfl ?_
    refine Z.callVi (pc := 41) dX8_digest_41 (c_X8_mostR hR2 n1) zm_X8_219 zv_X8_most rfl rfl rfl rfl (by decide) (by decide) (Nat.le_of_ble_eq_true rfl) ?_
    refine Z.i2l (pc := 44) dX8_digest_44 ?_
    refine Z.callSi (pc := 45) dX8_digest_45 (c_X8_mix _ _) zm_X8_222 zs_X8_mix rfl rfl (by decide) (by decide) (Nat.le_of_ble_eq_true rfl) ?_
    refine Z.lstore_n (pc := 48) (i := 1) dX8_digest_48 rfl (by decide) rfl ?_
    refine Z.lload_n (pc := 49) (i := 1) dX8_digest_49 rfl rfl ?_
    refine Z.aload_n (pc := 50) (i := 0) dX8_digest_50 rfl rfl ?_
    refine Z.getR (pc := 51) dX8_digest_51 zf_X8_42 rfl rfl ?_
    refine Z.callVi (pc := 54) dX8_digest_54 (c_X5_fewest (by exact rfl) (by omega) (by exact hT)) zm_X8_166 zv_X5_fewest rfl rfl rfl rfl (by decide) (by decide) (Nat.le_of_ble_eq_true rfl) ?_
    refine Z.i2l (pc := 57) dX8_digest_57 ?_
    refine Z.callSi (pc := 58) dX8_digest_58 (c_X8_mix _ _) zm_X8_222 zs_X8_mix rfl rfl (by decide) (by decide) (Nat.le_of_ble_eq_true rfl) ?_
    refine Z.lstore_n (pc := 61) (i := 1) dX8_digest_61 rfl (by decide) rfl ?_
    refine Z.lload_n (pc := 62) (i := 1) dX8_digest_62 rfl rfl ?_
    refine Z.aload_n (pc := 63) (i := 0) dX8_digest_63 rfl rfl ?_
    refine Z.iconst (pc := 64) (v := (0)) dX8_digest_64 (by decide) ?_
    refine Z.callVi (pc := 65) dX8_digest_65 (c_X8_hire0 hR2 n1) zm_X8_226 zv_X8_hire rfl rfl rfl rfl (by decide) (by decide) (Nat.le_of_ble_eq_true rfl) ?_
    refine Z.i2l (pc := 68) dX8_digest_68 ?_
    refine Z.callSi (pc := 69) dX8_digest_69 (c_X8_mix _ _) zm_X8_222 zs_X8_mix rfl rfl (by decide) (by decide) (Nat.le_of_ble_eq_true rfl) ?_
    refine Z.lstore_n (pc := 72) (i := 1) dX8_digest_72 rfl (by decide) rfl ?_
    refine Z.lload_n (pc := 73) (i := 1) dX8_digest_73 rfl rfl ?_
    refine Z.aload_n (pc := 74) (i := 0) dX8_digest_74 rfl rfl ?_
    refine Z.iconst (pc := 75) (v := (1)) dX8_digest_75 (by decide) ?_
    refine Z.callVi (pc := 76) dX8_digest_76 (c_X8_hire1 hR2 n1) zm_X8_226 zv_X8_hire rfl rfl rfl rfl (by decide) (by decide) (Nat.le_of_ble_eq_true rfl) ?_
    refine Z.i2l (pc := 79) dX8_digest_79 ?_
    refine Z.callSi (pc := 80) dX8_digest_80 (c_X8_mix _ _) zm_X8_222 zs_X8_mix rfl rfl (by decide) (by decide) (Nat.le_of_ble_eq_true rfl) ?_
    refine Z.lstore_n (pc := 83) (i := 1) dX8_digest_83 rfl (by decide) rfl ?_
    refine Z.lload_n (pc := 84) (i := 1) dX8_digest_84 rfl rfl ?_
    refine Z.aload_n (pc := 85) (i := 0) dX8_digest_85 rfl rfl ?_
    refine Z.callV (pc := 86) dX8_digest_86 (c_X8_endsR hR2 n1 (by exact hG.2.2.1) sfd zs (by exact z1) (by exact z2) (by exact z3)) zm_X8_229 zv_X8_ends rfl rfl rfl rfl (by decide) (by decide) (Nat.le_of_ble_eq_true rfl) (fun r86 h86 k86 => ?_)
    obtain ⟨rfl, st, hTR⟩ := k86
    obtain ⟨hD3, f3⟩ := TR_D hD2 zk zf hTR
    refine Z.i2l (pc := 89) dX8_digest_89 ?_
    refine Z.callSi (pc := 90) dX8_digest_90 (c_X8_mix _ _) zm_X8_222 zs_X8_mix rfl rfl (by decide) (by decide) (Nat.le_of_ble_eq_true rfl) ?_
    refine Z.topl (show _ = mxW n k s f hr fd _ from rfl) ?_
    refine Z.lstore_n (pc := 93) (i := 1) dX8_digest_93 rfl (by decide) rfl ?_
    refine Z.aload_n (pc := 94) (i := 0) dX8_digest_94 rfl rfl ?_
    refine Z.lload_n (pc := 95) (i := 1) dX8_digest_95 rfl rfl ?_
    refine Z.callV (pc := 96) dX8_digest_96 (c_X8_mixOdds (k := k) (s := s) (f := f) (n := n) (hr := hr) (hD3.2.1.Rm shl sk) (by rw [hTR.2.2.2.2.1 23 (by omega)]; rfl) (by rw [hTR.2.2.2.2.1 24 (by omega)]; exact hT) _) zm_X8_232 zv_X8_mixOdds rfl rfl rfl rfl (by decide) (by decide) (Nat.le_of_ble_eq_true rfl) (fun r96 h96 k96 => ?_)
    obtain ⟨rfl, hO⟩ := k96
    obtain ⟨hD4, f4⟩ := OD_D hD3 hO
    refine Z.lstore_n (pc := 99) (i := 1) dX8_digest_99 rfl (by decide) rfl ?_
    refine Z.iconst (pc := 100) (v := (nI 0)) dX8_digest_100 (by decide) ?_
    refine Z.istore_n (pc := 101) (i := 3) dX8_digest_101 rfl (by decide) rfl ?_
    exact l_X8_digest1 hS hD4 (fr_tr f2 (fr_tr f3 f4)) _ (by simp only [a_digest, if_neg n0]) len 0 (by omega)
