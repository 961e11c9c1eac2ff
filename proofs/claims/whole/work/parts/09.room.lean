set_option maxRecDepth 100000 in
set_option maxHeartbeats 400000 in
theorem c_X6_everyone0 {h : hp} {o n : Nat} (ho : ro o) (hn : h.1 o 3 = nI n) (hn8 : n ≤ 8)  : Cn yX6_everyone cX6_everyone 1 (some .int) 0 [.ref o] h (z_eq (some (.int (nI (2 ^ n - 1)))) h) := by
  refine Cn.of (by decide) (Nat.le_of_ble_eq_true rfl) ?_
  refine Z.eqL (lv' := [(0, .ref o)]) rfl ?_
  refine Z.iconst (pc := 0) (v := (nI 1)) dX6_everyone_0 (by decide) ?_
  refine Z.aload_n (pc := 1) (i := 0) dX6_everyone_1 rfl rfl ?_
  refine Z.getIv (pc := 2) dX6_everyone_2 zf_X6_27 (ro_s ho) rfl hn ?_
  refine Z.ishl (pc := 5) dX6_everyone_5 ?_
  refine Z.top (nb_shl (by omega)) ?_
  refine Z.iconst (pc := 6) (v := (1)) dX6_everyone_6 (by decide) ?_
  refine Z.isub (pc := 7) dX6_everyone_7 ?_
  refine Z.top (nb_pow1) ?_
  refine Z.iret (pc := 8) (ty := .int) dX6_everyone_8 rfl rfl ?_
  exact ⟨rfl, rfl⟩
set_option maxRecDepth 100000 in
set_option maxHeartbeats 400000 in
theorem c_X6_gone {h : hp} {o n hr : Nat} {k s f : Nat → Int32} (ho : ro o) (hR : Rm h o n hr k s f)  : Cn yX6_gone cX6_gone 1 (some .int) 1 [.ref o] h (z_eq (some (.int (nI (gon n hr)))) h) := by
  refine Cn.of (by decide) (Nat.le_of_ble_eq_true rfl) ?_
  refine Z.eqL (lv' := [(0, .ref o)]) rfl ?_
  refine Z.aload_n (pc := 0) (i := 0) dX6_gone_0 rfl rfl ?_
  refine Z.callVi (pc := 1) dX6_gone_1 (c_X6_everyone0 ho hR.1 hR.2.2.2.1.1) zm_X6_30 zv_X6_everyone (ro_s ho) rfl rfl rfl (by decide) (by decide) (Nat.le_of_ble_eq_true rfl) ?_
  refine Z.aload_n (pc := 4) (i := 0) dX6_gone_4 rfl rfl ?_
  refine Z.getIv (pc := 5) dX6_gone_5 zf_X6_33 (ro_s ho) rfl hR.2.1 ?_
  refine Z.iconst (pc := 8) (v := (-1)) dX6_gone_8 (by decide) ?_
  refine Z.ixor (pc := 9) dX6_gone_9 ?_
  refine Z.iand (pc := 10) dX6_gone_10 ?_
  refine Z.top (nb_dif _ _) ?_
  refine Z.iret (pc := 11) (ty := .int) dX6_gone_11 rfl rfl ?_
  exact ⟨rfl, rfl⟩
set_option maxRecDepth 100000 in
set_option maxHeartbeats 400000 in
theorem c_X6_hasGuest {h : hp} {o n hr : Nat} {k s f : Nat → Int32} (ho : ro o) (hR : Rm h o n hr k s f) (g : Int32)  : Cn yX6_hasGuest cX6_hasGuest 2 (some .boolean) 0 [.ref o, .int g] h (z_eq (some (.int (zb (decide (0 ≤ g ∧ g < nI n))))) h) := by
  have hn8 := hR.2.2.2.1.1
  refine Cn.of (by decide) (Nat.le_of_ble_eq_true rfl) ?_
  refine Z.eqL (lv' := [(0, .ref o), (1, .int g)]) rfl ?_
  refine Z.iload_n (pc := 0) (i := 1) dX6_hasGuest_0 rfl rfl ?_
  refine Z.if_lt (pc := 1) (tgt := 22) dX6_hasGuest_1 (by decide) (fun c1 => ?_) (fun c1 => ?_)
  · refine Z.iconst (pc := 22) (v := (0)) dX6_hasGuest_22 (by decide) ?_
    refine Z.iret (pc := 23) (ty := .boolean) dX6_hasGuest_23 rfl (by first | rfl | exact zb_nar _) ?_
    first | exact ⟨zb_f rfl (decide_eq_false (fun q => lt_nle c1 q.1)), rfl⟩ | exact ⟨zb_f rfl (decide_eq_false (fun q => lt_nle q.2 c9)), rfl⟩ | exact ⟨zb_f rfl (decide_eq_false (fun q => lt_nle q.2 (Int32.le_trans (nI_le hn8 (by decide)) c15))), rfl⟩ | exact ⟨zb_t rfl (decide_eq_true ⟨nlt c1, nle c9⟩), rfl⟩
  · refine Z.iload_n (pc := 4) (i := 1) dX6_hasGuest_4 rfl rfl ?_
    refine Z.aload_n (pc := 5) (i := 0) dX6_hasGuest_5 rfl rfl ?_
    refine Z.getIv (pc := 6) dX6_hasGuest_6 zf_X6_27 (ro_s ho) rfl hR.1 ?_
    refine Z.icmp_ge (pc := 9) (tgt := 22) dX6_hasGuest_9 (by decide) (fun c9 => ?_) (fun c9 => ?_)
    · refine Z.iconst (pc := 22) (v := (0)) dX6_hasGuest_22 (by decide) ?_
      refine Z.iret (pc := 23) (ty := .boolean) dX6_hasGuest_23 rfl (by first | rfl | exact zb_nar _) ?_
      first | exact ⟨zb_f rfl (decide_eq_false (fun q => lt_nle c1 q.1)), rfl⟩ | exact ⟨zb_f rfl (decide_eq_false (fun q => lt_nle q.2 c9)), rfl⟩ | exact ⟨zb_f rfl (decide_eq_false (fun q => lt_nle q.2 (Int32.le_trans (nI_le hn8 (by decide)) c15))), rfl⟩ | exact ⟨zb_t rfl (decide_eq_true ⟨nlt c1, nle c9⟩), rfl⟩
    · refine Z.iload_n (pc := 12) (i := 1) dX6_hasGuest_12 rfl rfl ?_
      refine Z.bipush (pc := 13) (v := (nI 8)) dX6_hasGuest_13 (by decide) ?_
      refine Z.icmp_ge (pc := 15) (tgt := 22) dX6_hasGuest_15 (by decide) (fun c15 => ?_) (fun c15 => ?_)
      · refine Z.iconst (pc := 22) (v := (0)) dX6_hasGuest_22 (by decide) ?_
        refine Z.iret (pc := 23) (ty := .boolean) dX6_hasGuest_23 rfl (by first | rfl | exact zb_nar _) ?_
        first | exact ⟨zb_f rfl (decide_eq_false (fun q => lt_nle c1 q.1)), rfl⟩ | exact ⟨zb_f rfl (decide_eq_false (fun q => lt_nle q.2 c9)), rfl⟩ | exact ⟨zb_f rfl (decide_eq_false (fun q => lt_nle q.2 (Int32.le_trans (nI_le hn8 (by decide)) c15))), rfl⟩ | exact ⟨zb_t rfl (decide_eq_true ⟨nlt c1, nle c9⟩), rfl⟩
      · refine Z.iconst (pc := 18) (v := (1)) dX6_hasGuest_18 (by decide) ?_
        refine Z.goto (pc := 19) (tgt := 23) dX6_hasGuest_19 (by decide) ?_
        refine Z.iret (pc := 23) (ty := .boolean) dX6_hasGuest_23 rfl (by first | rfl | exact zb_nar _) ?_
        first | exact ⟨zb_f rfl (decide_eq_false (fun q => lt_nle c1 q.1)), rfl⟩ | exact ⟨zb_f rfl (decide_eq_false (fun q => lt_nle q.2 c9)), rfl⟩ | exact ⟨zb_f rfl (decide_eq_false (fun q => lt_nle q.2 (Int32.le_trans (nI_le hn8 (by decide)) c15))), rfl⟩ | exact ⟨zb_t rfl (decide_eq_true ⟨nlt c1, nle c9⟩), rfl⟩
set_option maxRecDepth 100000 in
set_option maxHeartbeats 400000 in
theorem c_X6_isHere {h : hp} {o n hr : Nat} {k s f : Nat → Int32} (ho : ro o) (hR : Rm h o n hr k s f) (g : Nat) (hg : g < 32)  : Cn yX6_isHere cX6_isHere 2 (some .boolean) 1 [.ref o, .int (nI g)] h (z_eq (some (.int (zb (hr.testBit g)))) h) := by
  refine Cn.of (by decide) (Nat.le_of_ble_eq_true rfl) ?_
  refine Z.eqL (lv' := [(0, .ref o), (1, .int (nI g))]) rfl ?_
  refine Z.iload_n (pc := 0) (i := 1) dX6_isHere_0 rfl rfl ?_
  refine Z.aload_n (pc := 1) (i := 0) dX6_isHere_1 rfl rfl ?_
  refine Z.getIv (pc := 2) dX6_isHere_2 zf_X6_33 (ro_s ho) rfl hR.2.1 ?_
  refine Z.callNi (pc := 5) dX6_isHere_5 (c_X8_isAmong g hr hg (l31 hR.2.2.1 hR.2.2.2.1.1)) (Or.inl ⟨rfl, rfl⟩) zs_X8_isAmong rfl rfl (by decide) (by decide) (Nat.le_of_ble_eq_true rfl) ?_
  refine Z.iret (pc := 8) (ty := .boolean) dX6_isHere_8 rfl (by first | rfl | exact zb_nar _) ?_
  exact ⟨rfl, rfl⟩
set_option maxRecDepth 100000 in
set_option maxHeartbeats 400000 in
theorem c_X6_needsOf {h : hp} {o n hr : Nat} {k s f : Nat → Int32} (ho : ro o) (hR : Rm h o n hr k s f) (g : Nat) (hg : g < n)  : Cn yX6_needsOf cX6_needsOf 2 (some .int) 1 [.ref o, .int (nI g)] h (z_eq (some (.int (ndsI (k g) (s g)))) h) := by
  obtain ⟨-, -, -, -, rfl, rfl, rfl⟩ := id hR
  have hn8 := hR.2.2.2.1.1
  refine Cn.of (by decide) (Nat.le_of_ble_eq_true rfl) ?_
  refine Z.eqL (lv' := [(0, .ref o), (1, .int (nI g))]) rfl ?_
  refine Z.aload_n (pc := 0) (i := 0) dX6_needsOf_0 rfl rfl ?_
  refine Z.getR (pc := 1) dX6_needsOf_1 zf_X6_9 (ro_s ho) rfl ?_
  refine Z.iload_n (pc := 4) (i := 1) dX6_needsOf_4 rfl rfl ?_
  refine Z.iald (pc := 5) dX6_needsOf_5 (ro_1 ho) (by omega) (by decide) ?_
  refine Z.aload_n (pc := 6) (i := 0) dX6_needsOf_6 rfl rfl ?_
  refine Z.getR (pc := 7) dX6_needsOf_7 zf_X6_15 (ro_s ho) rfl ?_
  refine Z.iload_n (pc := 10) (i := 1) dX6_needsOf_10 rfl rfl ?_
  refine Z.iald (pc := 11) dX6_needsOf_11 (ro_2 ho) (by omega) (by decide) ?_
  refine Z.callSi (pc := 12) dX6_needsOf_12 (c_X3_needs _ _ (hR.2.2.2.1.2.1 g hg)) zm_X6_67 zs_X3_needs rfl rfl (by decide) (by decide) (Nat.le_of_ble_eq_true rfl) ?_
  refine Z.iret (pc := 15) (ty := .int) dX6_needsOf_15 rfl rfl ?_
  exact ⟨rfl, rfl⟩
set_option maxRecDepth 100000 in
set_option maxHeartbeats 400000 in
theorem c_X6_hasFriendAmong {h : hp} {o n hr : Nat} {k s f : Nat → Int32} (ho : ro o) (hR : Rm h o n hr k s f) (g c : Nat) (hg : g < n) (hc : c < 2 ^ n)  : Cn yX6_hasFriendAmong cX6_hasFriendAmong 3 (some .boolean) 1 [.ref o, .int (nI g), .int (nI c)] h (z_eq (some (.int (zb (frB f c g)))) h) := by
  obtain ⟨-, -, -, -, rfl, rfl, rfl⟩ := id hR
  have hn8 := hR.2.2.2.1.1
  have hF := hR.2.2.2.1.2.2.2 g hg
  generalize hfe : h.1 (o + 3) g = fg at hF
  refine Cn.of (by decide) (Nat.le_of_ble_eq_true rfl) ?_
  refine Z.eqL (lv' := [(0, .ref o), (1, .int (nI g)), (2, .int (nI c))]) rfl ?_
  refine Z.aload_n (pc := 0) (i := 0) dX6_hasFriendAmong_0 rfl rfl ?_
  refine Z.getR (pc := 1) dX6_hasFriendAmong_1 zf_X6_18 (ro_s ho) rfl ?_
  refine Z.iload_n (pc := 4) (i := 1) dX6_hasFriendAmong_4 rfl rfl ?_
  refine Z.iald (pc := 5) dX6_hasFriendAmong_5 (ro_3 ho) (by omega) (by decide) ?_
  refine Z.top (hfe) ?_
  refine Z.iconst (pc := 6) (v := (-1)) dX6_hasFriendAmong_6 (by decide) ?_
  refine Z.icmp_eq (pc := 7) (tgt := 23) dX6_hasFriendAmong_7 (by decide) (fun c7 => ?_) (fun c7 => ?_)
  · subst c7
    refine Z.iconst (pc := 23) (v := (1)) dX6_hasFriendAmong_23 (by decide) ?_
    refine Z.goto (pc := 24) (tgt := 28) dX6_hasFriendAmong_24 (by decide) ?_
    refine Z.iret (pc := 28) (ty := .boolean) dX6_hasFriendAmong_28 rfl (by first | rfl | exact zb_nar _) ?_
    refine ⟨?_, rfl⟩
    first | (refine zb_t rfl ?_; unfold frB; rw [hfe]; simp; done) | (refine zb_t rfl ?_; unfold frB; rw [hfe, nI_clamp (by omega), c20]; simp; done) | (refine zb_f rfl ?_; unfold frB; rw [hfe, nI_clamp (by omega), c20]; simp [c7]; done)
  · obtain ⟨j, hj, rfl⟩ := hF.resolve_left c7
    refine Z.aload_n (pc := 10) (i := 0) dX6_hasFriendAmong_10 rfl rfl ?_
    refine Z.getR (pc := 11) dX6_hasFriendAmong_11 zf_X6_18 (ro_s ho) rfl ?_
    refine Z.iload_n (pc := 14) (i := 1) dX6_hasFriendAmong_14 rfl rfl ?_
    refine Z.iald (pc := 15) dX6_hasFriendAmong_15 (ro_3 ho) (by omega) (by decide) ?_
    refine Z.top (hfe) ?_
    refine Z.iload_n (pc := 16) (i := 2) dX6_hasFriendAmong_16 rfl rfl ?_
    refine Z.callNi (pc := 17) dX6_hasFriendAmong_17 (c_X8_isAmong j c (by omega) (l31 hc hn8)) (Or.inl ⟨rfl, rfl⟩) zs_X8_isAmong rfl rfl (by decide) (by decide) (Nat.le_of_ble_eq_true rfl) ?_
    refine Z.if_eq_b (pc := 20) (tgt := 27) dX6_hasFriendAmong_20 (by decide) (fun c20 => ?_) (fun c20 => ?_)
    · refine Z.iconst (pc := 27) (v := (0)) dX6_hasFriendAmong_27 (by decide) ?_
      refine Z.iret (pc := 28) (ty := .boolean) dX6_hasFriendAmong_28 rfl (by first | rfl | exact zb_nar _) ?_
      refine ⟨?_, rfl⟩
      first | (refine zb_t rfl ?_; unfold frB; rw [hfe]; simp; done) | (refine zb_t rfl ?_; unfold frB; rw [hfe, nI_clamp (by omega), c20]; simp; done) | (refine zb_f rfl ?_; unfold frB; rw [hfe, nI_clamp (by omega), c20]; simp [c7]; done)
    · refine Z.iconst (pc := 23) (v := (1)) dX6_hasFriendAmong_23 (by decide) ?_
      refine Z.goto (pc := 24) (tgt := 28) dX6_hasFriendAmong_24 (by decide) ?_
      refine Z.iret (pc := 28) (ty := .boolean) dX6_hasFriendAmong_28 rfl (by first | rfl | exact zb_nar _) ?_
      refine ⟨?_, rfl⟩
      first | (refine zb_t rfl ?_; unfold frB; rw [hfe]; simp; done) | (refine zb_t rfl ?_; unfold frB; rw [hfe, nI_clamp (by omega), c20]; simp; done) | (refine zb_f rfl ?_; unfold frB; rw [hfe, nI_clamp (by omega), c20]; simp [c7]; done)
set_option maxRecDepth 100000 in
set_option maxHeartbeats 400000 in
theorem l_X6_countTogether {h : hp} {o n hr : Nat} {k s f : Nat → Int32} (ho : ro o) (hR : Rm h o n hr k s f) (m : Nat) (hm : m < 2 ^ n) : ∀ (r i : Nat) (a : Int32), i + r = 8 → a = sumI (fun i => cond (m.testBit i) (ctsI (k i)) 0) i → Z yX6_countTogether cX6_countTogether 4 (some .int) 1 (z_eq (some (.int (cntI k m))) h) 4 [(0, .ref o), (1, .int (nI m)), (2, .int a), (3, .int (nI i))] [] h := by
  obtain ⟨-, -, -, -, rfl, rfl, rfl⟩ := id hR
  have hn8 := hR.2.2.2.1.1
  intro r
  induction r with
  | zero =>
    intro i a hi ha
    obtain rfl : i = 8 := by omega
    refine Z.iload_n (pc := 4) (i := 3) dX6_countTogether_4 rfl rfl ?_
    refine Z.bipush (pc := 5) (v := (nI 8)) dX6_countTogether_5 (by decide) ?_
    refine Z.icmp_ge_t (pc := 7) (tgt := 36) dX6_countTogether_7 (by decide) (nI_le (Nat.le_refl 8) (by decide)) ?_
    refine Z.iload_n (pc := 36) (i := 2) dX6_countTogether_36 rfl rfl ?_
    refine Z.iret (pc := 37) (ty := .int) dX6_countTogether_37 rfl rfl ?_
    exact ⟨by rw [ha]; rfl, rfl⟩
  | succ r ih =>
    intro i a hi ha
    refine Z.iload_n (pc := 4) (i := 3) dX6_countTogether_4 rfl rfl ?_
    refine Z.bipush (pc := 5) (v := (nI 8)) dX6_countTogether_5 (by decide) ?_
    refine Z.icmp_ge_f (pc := 7) (tgt := 36) dX6_countTogether_7 (by decide) (nI_ge (by omega) (by decide)) ?_
    refine Z.iload_n (pc := 10) (i := 3) dX6_countTogether_10 rfl rfl ?_
    refine Z.iload_n (pc := 11) (i := 1) dX6_countTogether_11 rfl rfl ?_
    refine Z.callNi (pc := 12) dX6_countTogether_12 (c_X8_isAmong i m (by omega) (l31 hm hn8)) (Or.inl ⟨rfl, rfl⟩) zs_X8_isAmong rfl rfl (by decide) (by decide) (Nat.le_of_ble_eq_true rfl) ?_
    refine Z.if_eq_b (pc := 15) (tgt := 30) dX6_countTogether_15 (by decide) (fun c15 => ?_) (fun c15 => ?_)
    · refine Z.iinc (pc := 30) (i := 3) (v := (nI (i + 1))) dX6_countTogether_30 rfl (by exact ii_1 i) (by decide) rfl ?_
      refine Z.goto (pc := 33) (tgt := 4) dX6_countTogether_33 (by decide) ?_
      first | exact ih (i + 1) _ (by omega) (sumI_t ha (by simp only [c15, cond_true])) | exact ih (i + 1) _ (by omega) (sumI_f ha (by simp only [c15, cond_false]))
    · refine Z.iload_n (pc := 18) (i := 2) dX6_countTogether_18 rfl rfl ?_
      refine Z.aload_n (pc := 19) (i := 0) dX6_countTogether_19 rfl rfl ?_
      refine Z.getR (pc := 20) dX6_countTogether_20 zf_X6_9 (ro_s ho) rfl ?_
      refine Z.iload_n (pc := 23) (i := 3) dX6_countTogether_23 rfl rfl ?_
      refine Z.iald (pc := 24) dX6_countTogether_24 (ro_1 ho) (by omega) (by decide) ?_
      refine Z.callSi (pc := 25) dX6_countTogether_25 (c_X3_countsAs _) zm_X6_71 zs_X3_countsAs rfl rfl (by decide) (by decide) (Nat.le_of_ble_eq_true rfl) ?_
      refine Z.iadd (pc := 28) dX6_countTogether_28 ?_
      refine Z.istore_n (pc := 29) (i := 2) dX6_countTogether_29 rfl (by decide) rfl ?_
      refine Z.iinc (pc := 30) (i := 3) (v := (nI (i + 1))) dX6_countTogether_30 rfl (by exact ii_1 i) (by decide) rfl ?_
      refine Z.goto (pc := 33) (tgt := 4) dX6_countTogether_33 (by decide) ?_
      first | exact ih (i + 1) _ (by omega) (sumI_t ha (by simp only [c15, cond_true])) | exact ih (i + 1) _ (by omega) (sumI_f ha (by simp only [c15, cond_false]))
set_option maxRecDepth 100000 in
set_option maxHeartbeats 400000 in
theorem c_X6_countTogether {h : hp} {o n hr : Nat} {k s f : Nat → Int32} (ho : ro o) (hR : Rm h o n hr k s f) (m : Nat) (hm : m < 2 ^ n)  : Cn yX6_countTogether cX6_countTogether 4 (some .int) 1 [.ref o, .int (nI m)] h (z_eq (some (.int (cntI k m))) h) := by
  refine Cn.of (by decide) (Nat.le_of_ble_eq_true rfl) ?_
  refine Z.eqL (lv' := [(0, .ref o), (1, .int (nI m))]) rfl ?_
  refine Z.iconst (pc := 0) (v := (0)) dX6_countTogether_0 (by decide) ?_
  refine Z.istore_n (pc := 1) (i := 2) dX6_countTogether_1 rfl (by decide) rfl ?_
  refine Z.iconst (pc := 2) (v := (0)) dX6_countTogether_2 (by decide) ?_
  refine Z.istore_n (pc := 3) (i := 3) dX6_countTogether_3 rfl (by decide) rfl ?_
  exact l_X6_countTogether ho hR m hm 8 0 0 rfl rfl
set_option maxRecDepth 100000 in
set_option maxHeartbeats 400000 in
theorem l_X6_shyTogether {h : hp} {o n hr : Nat} {k s f : Nat → Int32} (ho : ro o) (hR : Rm h o n hr k s f) (m : Nat) (hm : m < 2 ^ n) : ∀ (r i : Nat) (a : Int32), i + r = 8 → a = sumI (fun i => cond (m.testBit i) (s i) 0) i → Z yX6_shyTogether cX6_shyTogether 4 (some .int) 1 (z_eq (some (.int (shyI s m))) h) 4 [(0, .ref o), (1, .int (nI m)), (2, .int a), (3, .int (nI i))] [] h := by
  obtain ⟨-, -, -, -, rfl, rfl, rfl⟩ := id hR
  have hn8 := hR.2.2.2.1.1
  intro r
  induction r with
  | zero =>
    intro i a hi ha
    obtain rfl : i = 8 := by omega
    refine Z.iload_n (pc := 4) (i := 3) dX6_shyTogether_4 rfl rfl ?_
    refine Z.bipush (pc := 5) (v := (nI 8)) dX6_shyTogether_5 (by decide) ?_
    refine Z.icmp_ge_t (pc := 7) (tgt := 33) dX6_shyTogether_7 (by decide) (nI_le (Nat.le_refl 8) (by decide)) ?_
    refine Z.iload_n (pc := 33) (i := 2) dX6_shyTogether_33 rfl rfl ?_
    refine Z.iret (pc := 34) (ty := .int) dX6_shyTogether_34 rfl rfl ?_
    exact ⟨by rw [ha]; rfl, rfl⟩
  | succ r ih =>
    intro i a hi ha
    refine Z.iload_n (pc := 4) (i := 3) dX6_shyTogether_4 rfl rfl ?_
    refine Z.bipush (pc := 5) (v := (nI 8)) dX6_shyTogether_5 (by decide) ?_
    refine Z.icmp_ge_f (pc := 7) (tgt := 33) dX6_shyTogether_7 (by decide) (nI_ge (by omega) (by decide)) ?_
    refine Z.iload_n (pc := 10) (i := 3) dX6_shyTogether_10 rfl rfl ?_
    refine Z.iload_n (pc := 11) (i := 1) dX6_shyTogether_11 rfl rfl ?_
    refine Z.callNi (pc := 12) dX6_shyTogether_12 (c_X8_isAmong i m (by omega) (l31 hm hn8)) (Or.inl ⟨rfl, rfl⟩) zs_X8_isAmong rfl rfl (by decide) (by decide) (Nat.le_of_ble_eq_true rfl) ?_
    refine Z.if_eq_b (pc := 15) (tgt := 27) dX6_shyTogether_15 (by decide) (fun c15 => ?_) (fun c15 => ?_)
    · refine Z.iinc (pc := 27) (i := 3) (v := (nI (i + 1))) dX6_shyTogether_27 rfl (by exact ii_1 i) (by decide) rfl ?_
      refine Z.goto (pc := 30) (tgt := 4) dX6_shyTogether_30 (by decide) ?_
      first | exact ih (i + 1) _ (by omega) (sumI_t ha (by simp only [c15, cond_true])) | exact ih (i + 1) _ (by omega) (sumI_f ha (by simp only [c15, cond_false]))
    · refine Z.iload_n (pc := 18) (i := 2) dX6_shyTogether_18 rfl rfl ?_
      refine Z.aload_n (pc := 19) (i := 0) dX6_shyTogether_19 rfl rfl ?_
      refine Z.getR (pc := 20) dX6_shyTogether_20 zf_X6_15 (ro_s ho) rfl ?_
      refine Z.iload_n (pc := 23) (i := 3) dX6_shyTogether_23 rfl rfl ?_
      refine Z.iald (pc := 24) dX6_shyTogether_24 (ro_2 ho) (by omega) (by decide) ?_
      refine Z.iadd (pc := 25) dX6_shyTogether_25 ?_
      refine Z.istore_n (pc := 26) (i := 2) dX6_shyTogether_26 rfl (by decide) rfl ?_
      refine Z.iinc (pc := 27) (i := 3) (v := (nI (i + 1))) dX6_shyTogether_27 rfl (by exact ii_1 i) (by decide) rfl ?_
      refine Z.goto (pc := 30) (tgt := 4) dX6_shyTogether_30 (by decide) ?_
      first | exact ih (i + 1) _ (by omega) (sumI_t ha (by simp only [c15, cond_true])) | exact ih (i + 1) _ (by omega) (sumI_f ha (by simp only [c15, cond_false]))
set_option maxRecDepth 100000 in
set_option maxHeartbeats 400000 in
theorem c_X6_shyTogether {h : hp} {o n hr : Nat} {k s f : Nat → Int32} (ho : ro o) (hR : Rm h o n hr k s f) (m : Nat) (hm : m < 2 ^ n)  : Cn yX6_shyTogether cX6_shyTogether 4 (some .int) 1 [.ref o, .int (nI m)] h (z_eq (some (.int (shyI s m))) h) := by
  refine Cn.of (by decide) (Nat.le_of_ble_eq_true rfl) ?_
  refine Z.eqL (lv' := [(0, .ref o), (1, .int (nI m))]) rfl ?_
  refine Z.iconst (pc := 0) (v := (0)) dX6_shyTogether_0 (by decide) ?_
  refine Z.istore_n (pc := 1) (i := 2) dX6_shyTogether_1 rfl (by decide) rfl ?_
  refine Z.iconst (pc := 2) (v := (0)) dX6_shyTogether_2 (by decide) ?_
  refine Z.istore_n (pc := 3) (i := 3) dX6_shyTogether_3 rfl (by decide) rfl ?_
  exact l_X6_shyTogether ho hR m hm 8 0 0 rfl rfl
set_option maxRecDepth 100000 in
set_option maxHeartbeats 400000 in
theorem l_X6_whoCanGo {h : hp} {o n hr : Nat} {k s f : Nat → Int32} (ho : ro o) (hR : Rm h o n hr k s f) (m : Nat) (hm : m < 2 ^ n) : ∀ (r i : Nat) (a : Nat), i + r = 8 → a = orb (wcB k s f n hr m) i → Z yX6_whoCanGo cX6_whoCanGo 6 (some .int) 2 (z_eq (some (.int (nI (wcg k s f n hr m)))) h) 19 [(0, .ref o), (1, .int (nI m)), (2, .int (nI (m ||| gon n hr))), (3, .int (cntI k (m ||| gon n hr))), (4, .int (nI a)), (5, .int (nI i))] [] h := by
  obtain ⟨-, -, -, -, rfl, rfl, rfl⟩ := id hR
  have hn8 := hR.2.2.2.1.1
  intro r
  induction r with
  | zero =>
    intro i a hi ha
    obtain rfl : i = 8 := by omega
    refine Z.iload (pc := 19) (i := 5) dX6_whoCanGo_19 rfl ?_
    refine Z.bipush (pc := 21) (v := (nI 8)) dX6_whoCanGo_21 (by decide) ?_
    refine Z.icmp_ge_t (pc := 23) (tgt := 81) dX6_whoCanGo_23 (by decide) (nI_le (Nat.le_refl 8) (by decide)) ?_
    refine Z.iload (pc := 81) (i := 4) dX6_whoCanGo_81 rfl ?_
    refine Z.iret (pc := 83) (ty := .int) dX6_whoCanGo_83 rfl rfl ?_
    exact ⟨by rw [ha]; rfl, rfl⟩
  | succ r ih =>
    intro i a hi ha
    refine Z.iload (pc := 19) (i := 5) dX6_whoCanGo_19 rfl ?_
    refine Z.bipush (pc := 21) (v := (nI 8)) dX6_whoCanGo_21 (by decide) ?_
    refine Z.icmp_ge_f (pc := 23) (tgt := 81) dX6_whoCanGo_23 (by decide) (nI_ge (by omega) (by decide)) ?_
    refine Z.iload (pc := 26) (i := 5) dX6_whoCanGo_26 rfl ?_
    refine Z.iload_n (pc := 28) (i := 1) dX6_whoCanGo_28 rfl rfl ?_
    refine Z.callNi (pc := 29) dX6_whoCanGo_29 (c_X8_isAmong i m (by omega) (l31 hm hn8)) (Or.inl ⟨rfl, rfl⟩) zs_X8_isAmong rfl rfl (by decide) (by decide) (Nat.le_of_ble_eq_true rfl) ?_
    refine Z.if_eq_b (pc := 32) (tgt := 75) dX6_whoCanGo_32 (by decide) (fun c32 => ?_) (fun c32 => ?_)
    · refine Z.iinc (pc := 75) (i := 5) (v := (nI (i + 1))) dX6_whoCanGo_75 rfl (by exact ii_1 i) (by decide) rfl ?_
      refine Z.goto (pc := 78) (tgt := 19) dX6_whoCanGo_78 (by decide) ?_
      refine ih (i + 1) _ (by omega) ?_
      first
        | (refine orb_f ha ?_; simp [wcB, c32]; done)
        | (refine orb_f ha ?_; simp [wcB, canB, c42]; done)
        | (refine orb_f ha ?_; simp [wcB, canB, lt_nle c63]; done)
        | (refine orb_t ha ?_; simp [wcB, canB, c32, c42, nlt c63]; done)
    · have hin : i < n := tb_lt hm c32
      refine Z.aload_n (pc := 35) (i := 0) dX6_whoCanGo_35 rfl rfl ?_
      refine Z.iload (pc := 36) (i := 5) dX6_whoCanGo_36 rfl ?_
      refine Z.iload_n (pc := 38) (i := 2) dX6_whoCanGo_38 rfl rfl ?_
      refine Z.callVi (pc := 39) dX6_whoCanGo_39 (c_X6_hasFriendAmong ho hR i _ hin (or_lt hm (gon_lt n hr))) zm_X6_80 zv_X6_hasFriendAmong (ro_s ho) rfl rfl rfl (by decide) (by decide) (Nat.le_of_ble_eq_true rfl) ?_
      refine Z.if_eq_b (pc := 42) (tgt := 75) dX6_whoCanGo_42 (by decide) (fun c42 => ?_) (fun c42 => ?_)
      · refine Z.iinc (pc := 75) (i := 5) (v := (nI (i + 1))) dX6_whoCanGo_75 rfl (by exact ii_1 i) (by decide) rfl ?_
        refine Z.goto (pc := 78) (tgt := 19) dX6_whoCanGo_78 (by decide) ?_
        refine ih (i + 1) _ (by omega) ?_
        first
          | (refine orb_f ha ?_; simp [wcB, c32]; done)
          | (refine orb_f ha ?_; simp [wcB, canB, c42]; done)
          | (refine orb_f ha ?_; simp [wcB, canB, lt_nle c63]; done)
          | (refine orb_t ha ?_; simp [wcB, canB, c32, c42, nlt c63]; done)
      · refine Z.iload_n (pc := 45) (i := 3) dX6_whoCanGo_45 rfl rfl ?_
        refine Z.aload_n (pc := 46) (i := 0) dX6_whoCanGo_46 rfl rfl ?_
        refine Z.getR (pc := 47) dX6_whoCanGo_47 zf_X6_9 (ro_s ho) rfl ?_
        refine Z.iload (pc := 50) (i := 5) dX6_whoCanGo_50 rfl ?_
        refine Z.iald (pc := 52) dX6_whoCanGo_52 (ro_1 ho) (by omega) (by decide) ?_
        refine Z.callSi (pc := 53) dX6_whoCanGo_53 (c_X3_countsAs _) zm_X6_71 zs_X3_countsAs rfl rfl (by decide) (by decide) (Nat.le_of_ble_eq_true rfl) ?_
        refine Z.isub (pc := 56) dX6_whoCanGo_56 ?_
        refine Z.aload_n (pc := 57) (i := 0) dX6_whoCanGo_57 rfl rfl ?_
        refine Z.iload (pc := 58) (i := 5) dX6_whoCanGo_58 rfl ?_
        refine Z.callVi (pc := 60) dX6_whoCanGo_60 (c_X6_needsOf ho hR i hin) zm_X6_83 zv_X6_needsOf (ro_s ho) rfl rfl rfl (by decide) (by decide) (Nat.le_of_ble_eq_true rfl) ?_
        refine Z.icmp_lt (pc := 63) (tgt := 75) dX6_whoCanGo_63 (by decide) (fun c63 => ?_) (fun c63 => ?_)
        · refine Z.iinc (pc := 75) (i := 5) (v := (nI (i + 1))) dX6_whoCanGo_75 rfl (by exact ii_1 i) (by decide) rfl ?_
          refine Z.goto (pc := 78) (tgt := 19) dX6_whoCanGo_78 (by decide) ?_
          refine ih (i + 1) _ (by omega) ?_
          first
            | (refine orb_f ha ?_; simp [wcB, c32]; done)
            | (refine orb_f ha ?_; simp [wcB, canB, c42]; done)
            | (refine orb_f ha ?_; simp [wcB, canB, lt_nle c63]; done)
            | (refine orb_t ha ?_; simp [wcB, canB, c32, c42, nlt c63]; done)
        · refine Z.iload (pc := 66) (i := 4) dX6_whoCanGo_66 rfl ?_
          refine Z.iconst (pc := 68) (v := (nI 1)) dX6_whoCanGo_68 (by decide) ?_
          refine Z.iload (pc := 69) (i := 5) dX6_whoCanGo_69 rfl ?_
          refine Z.ishl (pc := 71) dX6_whoCanGo_71 ?_
          refine Z.top (nb_shl (by omega)) ?_
          refine Z.ior (pc := 72) dX6_whoCanGo_72 ?_
          refine Z.top (nb_or _ _) ?_
          refine Z.istore (pc := 73) (i := 4) dX6_whoCanGo_73 (by decide) rfl ?_
          refine Z.iinc (pc := 75) (i := 5) (v := (nI (i + 1))) dX6_whoCanGo_75 rfl (by exact ii_1 i) (by decide) rfl ?_
          refine Z.goto (pc := 78) (tgt := 19) dX6_whoCanGo_78 (by decide) ?_
          refine ih (i + 1) _ (by omega) ?_
          first
            | (refine orb_f ha ?_; simp [wcB, c32]; done)
            | (refine orb_f ha ?_; simp [wcB, canB, c42]; done)
            | (refine orb_f ha ?_; simp [wcB, canB, lt_nle c63]; done)
            | (refine orb_t ha ?_; simp [wcB, canB, c32, c42, nlt c63]; done)
set_option maxRecDepth 100000 in
set_option maxHeartbeats 400000 in
theorem c_X6_whoCanGo {h : hp} {o n hr : Nat} {k s f : Nat → Int32} (ho : ro o) (hR : Rm h o n hr k s f) (m : Nat) (hm : m < 2 ^ n)  : Cn yX6_whoCanGo cX6_whoCanGo 6 (some .int) 2 [.ref o, .int (nI m)] h (z_eq (some (.int (nI (wcg k s f n hr m)))) h) := by
  refine Cn.of (by decide) (Nat.le_of_ble_eq_true rfl) ?_
  refine Z.eqL (lv' := [(0, .ref o), (1, .int (nI m))]) rfl ?_
  refine Z.iload_n (pc := 0) (i := 1) dX6_whoCanGo_0 rfl rfl ?_
  refine Z.aload_n (pc := 1) (i := 0) dX6_whoCanGo_1 rfl rfl ?_
  refine Z.callVi (pc := 2) dX6_whoCanGo_2 (c_X6_gone ho hR) zm_X6_74 zv_X6_gone (ro_s ho) rfl rfl rfl (by decide) (by decide) (Nat.le_of_ble_eq_true rfl) ?_
  refine Z.ior (pc := 5) dX6_whoCanGo_5 ?_
  refine Z.top (nb_or _ _) ?_
  refine Z.istore_n (pc := 6) (i := 2) dX6_whoCanGo_6 rfl (by decide) rfl ?_
  refine Z.aload_n (pc := 7) (i := 0) dX6_whoCanGo_7 rfl rfl ?_
  refine Z.iload_n (pc := 8) (i := 2) dX6_whoCanGo_8 rfl rfl ?_
  refine Z.callVi (pc := 9) dX6_whoCanGo_9 (c_X6_countTogether ho hR _ (or_lt hm (gon_lt n hr))) zm_X6_77 zv_X6_countTogether (ro_s ho) rfl rfl rfl (by decide) (by decide) (Nat.le_of_ble_eq_true rfl) ?_
  refine Z.istore_n (pc := 12) (i := 3) dX6_whoCanGo_12 rfl (by decide) rfl ?_
  refine Z.iconst (pc := 13) (v := (nI 0)) dX6_whoCanGo_13 (by decide) ?_
  refine Z.istore (pc := 14) (i := 4) dX6_whoCanGo_14 (by decide) rfl ?_
  refine Z.iconst (pc := 16) (v := (nI 0)) dX6_whoCanGo_16 (by decide) ?_
  refine Z.istore (pc := 17) (i := 5) dX6_whoCanGo_17 (by decide) rfl ?_
  exact l_X6_whoCanGo ho hR m hm 8 0 0 rfl rfl
theorem wcg_lt {k s f : Nat → Int32} {n hr m : Nat} (hm : m < 2 ^ n) : wcg k s f n hr m < 2 ^ n := lt_bits (fun i hi => by unfold wcg wcB; rw [orb_bit, bit_lt hm hi]; simp)
set_option maxRecDepth 100000 in
set_option maxHeartbeats 400000 in
theorem l_X6_mostWhoRise {h : hp} {o n hr : Nat} {k s f : Nat → Int32} (ho : ro o) (hR : Rm h o n hr k s f) : ∀ (r i : Nat) (a : Nat), i + r = 8 → a = itN (wcg k s f n hr) i hr → a < 2 ^ n → Z yX6_mostWhoRise cX6_mostWhoRise 3 (some .int) 3 (z_eq (some (.int (nI (mst k s f n hr hr)))) h) 7 [(0, .ref o), (1, .int (nI a)), (2, .int (nI i))] [] h := by
  intro r
  induction r with
  | zero =>
    intro i a hi ha hal
    obtain rfl : i = 8 := by omega
    refine Z.iload_n (pc := 7) (i := 2) dX6_mostWhoRise_7 rfl rfl ?_
    refine Z.bipush (pc := 8) (v := (nI 8)) dX6_mostWhoRise_8 (by decide) ?_
    refine Z.icmp_ge_t (pc := 10) (tgt := 25) dX6_mostWhoRise_10 (by decide) (nI_le (Nat.le_refl 8) (by decide)) ?_
    refine Z.iload_n (pc := 25) (i := 1) dX6_mostWhoRise_25 rfl rfl ?_
    refine Z.iret (pc := 26) (ty := .int) dX6_mostWhoRise_26 rfl rfl ?_
    exact ⟨by rw [ha]; rfl, rfl⟩
  | succ r ih =>
    intro i a hi ha hal
    refine Z.iload_n (pc := 7) (i := 2) dX6_mostWhoRise_7 rfl rfl ?_
    refine Z.bipush (pc := 8) (v := (nI 8)) dX6_mostWhoRise_8 (by decide) ?_
    refine Z.icmp_ge_f (pc := 10) (tgt := 25) dX6_mostWhoRise_10 (by decide) (nI_ge (by omega) (by decide)) ?_
    refine Z.aload_n (pc := 13) (i := 0) dX6_mostWhoRise_13 rfl rfl ?_
    refine Z.iload_n (pc := 14) (i := 1) dX6_mostWhoRise_14 rfl rfl ?_
    refine Z.callVi (pc := 15) dX6_mostWhoRise_15 (c_X6_whoCanGo ho hR a hal) zm_X6_86 zv_X6_whoCanGo (ro_s ho) rfl rfl rfl (by decide) (by decide) (Nat.le_of_ble_eq_true rfl) ?_
    refine Z.istore_n (pc := 18) (i := 1) dX6_mostWhoRise_18 rfl (by decide) rfl ?_
    refine Z.iinc (pc := 19) (i := 2) (v := (nI (i + 1))) dX6_mostWhoRise_19 rfl (by exact ii_1 i) (by decide) rfl ?_
    refine Z.goto (pc := 22) (tgt := 7) dX6_mostWhoRise_22 (by decide) ?_
    exact ih (i + 1) _ (by omega) (by rw [ha]; exact itN_out _ i hr) (wcg_lt hal)
set_option maxRecDepth 100000 in
set_option maxHeartbeats 400000 in
theorem c_X6_mostWhoRise {h : hp} {o n hr : Nat} {k s f : Nat → Int32} (ho : ro o) (hR : Rm h o n hr k s f)  : Cn yX6_mostWhoRise cX6_mostWhoRise 3 (some .int) 3 [.ref o] h (z_eq (some (.int (nI (mst k s f n hr hr)))) h) := by
  refine Cn.of (by decide) (Nat.le_of_ble_eq_true rfl) ?_
  refine Z.eqL (lv' := [(0, .ref o)]) rfl ?_
  refine Z.aload_n (pc := 0) (i := 0) dX6_mostWhoRise_0 rfl rfl ?_
  refine Z.getIv (pc := 1) dX6_mostWhoRise_1 zf_X6_33 (ro_s ho) rfl hR.2.1 ?_
  refine Z.istore_n (pc := 4) (i := 1) dX6_mostWhoRise_4 rfl (by decide) rfl ?_
  refine Z.iconst (pc := 5) (v := (nI 0)) dX6_mostWhoRise_5 (by decide) ?_
  refine Z.istore_n (pc := 6) (i := 2) dX6_mostWhoRise_6 rfl (by decide) rfl ?_
  exact l_X6_mostWhoRise ho hR 8 0 hr rfl rfl hR.2.2.1
set_option maxRecDepth 100000 in
set_option maxHeartbeats 400000 in
theorem l_X6_whoCanGoAlone {h : hp} {o n hr : Nat} {k s f : Nat → Int32} (ho : ro o) (hR : Rm h o n hr k s f) : ∀ (r i : Nat) (a : Nat), i + r = 8 → a = orb (alB k s f n hr) i → Z yX6_whoCanGoAlone cX6_whoCanGoAlone 5 (some .int) 2 (z_eq (some (.int (nI (alo k s f n hr)))) h) 16 [(0, .ref o), (1, .int (nI (gon n hr))), (2, .int (cntI k (gon n hr))), (3, .int (nI a)), (4, .int (nI i))] [] h := by
  obtain ⟨-, -, -, -, rfl, rfl, rfl⟩ := id hR
  have hn8 := hR.2.2.2.1.1
  intro r
  induction r with
  | zero =>
    intro i a hi ha
    obtain rfl : i = 8 := by omega
    refine Z.iload (pc := 16) (i := 4) dX6_whoCanGoAlone_16 rfl ?_
    refine Z.bipush (pc := 18) (v := (nI 8)) dX6_whoCanGoAlone_18 (by decide) ?_
    refine Z.icmp_ge_t (pc := 20) (tgt := 65) dX6_whoCanGoAlone_20 (by decide) (nI_le (Nat.le_refl 8) (by decide)) ?_
    refine Z.iload_n (pc := 65) (i := 3) dX6_whoCanGoAlone_65 rfl rfl ?_
    refine Z.iret (pc := 66) (ty := .int) dX6_whoCanGoAlone_66 rfl rfl ?_
    exact ⟨by rw [ha]; rfl, rfl⟩
  | succ r ih =>
    intro i a hi ha
    refine Z.iload (pc := 16) (i := 4) dX6_whoCanGoAlone_16 rfl ?_
    refine Z.bipush (pc := 18) (v := (nI 8)) dX6_whoCanGoAlone_18 (by decide) ?_
    refine Z.icmp_ge_f (pc := 20) (tgt := 65) dX6_whoCanGoAlone_20 (by decide) (nI_ge (by omega) (by decide)) ?_
    refine Z.aload_n (pc := 23) (i := 0) dX6_whoCanGoAlone_23 rfl rfl ?_
    refine Z.iload (pc := 24) (i := 4) dX6_whoCanGoAlone_24 rfl ?_
    refine Z.callVi (pc := 26) dX6_whoCanGoAlone_26 (c_X6_isHere ho hR i (by omega)) zm_X6_89 zv_X6_isHere (ro_s ho) rfl rfl rfl (by decide) (by decide) (Nat.le_of_ble_eq_true rfl) ?_
    refine Z.if_eq_b (pc := 29) (tgt := 59) dX6_whoCanGoAlone_29 (by decide) (fun c29 => ?_) (fun c29 => ?_)
    · refine Z.iinc (pc := 59) (i := 4) (v := (nI (i + 1))) dX6_whoCanGoAlone_59 rfl (by exact ii_1 i) (by decide) rfl ?_
      refine Z.goto (pc := 62) (tgt := 16) dX6_whoCanGoAlone_62 (by decide) ?_
      refine ih (i + 1) _ (by omega) ?_
      first
        | (refine orb_f ha ?_; simp [alB, c29]; done)
        | (refine orb_f ha ?_; simp [alB, c39]; done)
        | (refine orb_f ha ?_; simp [alB, lt_nle c49]; done)
        | (refine orb_t ha ?_; simp [alB, c29, c39, nlt c49]; done)
    · have hin : i < n := tb_lt hR.2.2.1 c29
      refine Z.aload_n (pc := 32) (i := 0) dX6_whoCanGoAlone_32 rfl rfl ?_
      refine Z.iload (pc := 33) (i := 4) dX6_whoCanGoAlone_33 rfl ?_
      refine Z.iload_n (pc := 35) (i := 1) dX6_whoCanGoAlone_35 rfl rfl ?_
      refine Z.callVi (pc := 36) dX6_whoCanGoAlone_36 (c_X6_hasFriendAmong ho hR i _ hin (gon_lt n hr)) zm_X6_80 zv_X6_hasFriendAmong (ro_s ho) rfl rfl rfl (by decide) (by decide) (Nat.le_of_ble_eq_true rfl) ?_
      refine Z.if_eq_b (pc := 39) (tgt := 59) dX6_whoCanGoAlone_39 (by decide) (fun c39 => ?_) (fun c39 => ?_)
      · refine Z.iinc (pc := 59) (i := 4) (v := (nI (i + 1))) dX6_whoCanGoAlone_59 rfl (by exact ii_1 i) (by decide) rfl ?_
        refine Z.goto (pc := 62) (tgt := 16) dX6_whoCanGoAlone_62 (by decide) ?_
        refine ih (i + 1) _ (by omega) ?_
        first
          | (refine orb_f ha ?_; simp [alB, c29]; done)
          | (refine orb_f ha ?_; simp [alB, c39]; done)
          | (refine orb_f ha ?_; simp [alB, lt_nle c49]; done)
          | (refine orb_t ha ?_; simp [alB, c29, c39, nlt c49]; done)
      · refine Z.iload_n (pc := 42) (i := 2) dX6_whoCanGoAlone_42 rfl rfl ?_
        refine Z.aload_n (pc := 43) (i := 0) dX6_whoCanGoAlone_43 rfl rfl ?_
        refine Z.iload (pc := 44) (i := 4) dX6_whoCanGoAlone_44 rfl ?_
        refine Z.callVi (pc := 46) dX6_whoCanGoAlone_46 (c_X6_needsOf ho hR i hin) zm_X6_83 zv_X6_needsOf (ro_s ho) rfl rfl rfl (by decide) (by decide) (Nat.le_of_ble_eq_true rfl) ?_
        refine Z.icmp_lt (pc := 49) (tgt := 59) dX6_whoCanGoAlone_49 (by decide) (fun c49 => ?_) (fun c49 => ?_)
        · refine Z.iinc (pc := 59) (i := 4) (v := (nI (i + 1))) dX6_whoCanGoAlone_59 rfl (by exact ii_1 i) (by decide) rfl ?_
          refine Z.goto (pc := 62) (tgt := 16) dX6_whoCanGoAlone_62 (by decide) ?_
          refine ih (i + 1) _ (by omega) ?_
          first
            | (refine orb_f ha ?_; simp [alB, c29]; done)
            | (refine orb_f ha ?_; simp [alB, c39]; done)
            | (refine orb_f ha ?_; simp [alB, lt_nle c49]; done)
            | (refine orb_t ha ?_; simp [alB, c29, c39, nlt c49]; done)
        · refine Z.iload_n (pc := 52) (i := 3) dX6_whoCanGoAlone_52 rfl rfl ?_
          refine Z.iconst (pc := 53) (v := (nI 1)) dX6_whoCanGoAlone_53 (by decide) ?_
          refine Z.iload (pc := 54) (i := 4) dX6_whoCanGoAlone_54 rfl ?_
          refine Z.ishl (pc := 56) dX6_whoCanGoAlone_56 ?_
          refine Z.top (nb_shl (by omega)) ?_
          refine Z.ior (pc := 57) dX6_whoCanGoAlone_57 ?_
          refine Z.top (nb_or _ _) ?_
          refine Z.istore_n (pc := 58) (i := 3) dX6_whoCanGoAlone_58 rfl (by decide) rfl ?_
          refine Z.iinc (pc := 59) (i := 4) (v := (nI (i + 1))) dX6_whoCanGoAlone_59 rfl (by exact ii_1 i) (by decide) rfl ?_
          refine Z.goto (pc := 62) (tgt := 16) dX6_whoCanGoAlone_62 (by decide) ?_
          refine ih (i + 1) _ (by omega) ?_
          first
            | (refine orb_f ha ?_; simp [alB, c29]; done)
            | (refine orb_f ha ?_; simp [alB, c39]; done)
            | (refine orb_f ha ?_; simp [alB, lt_nle c49]; done)
            | (refine orb_t ha ?_; simp [alB, c29, c39, nlt c49]; done)
set_option maxRecDepth 100000 in
set_option maxHeartbeats 400000 in
theorem c_X6_whoCanGoAlone {h : hp} {o n hr : Nat} {k s f : Nat → Int32} (ho : ro o) (hR : Rm h o n hr k s f)  : Cn yX6_whoCanGoAlone cX6_whoCanGoAlone 5 (some .int) 2 [.ref o] h (z_eq (some (.int (nI (alo k s f n hr)))) h) := by
  refine Cn.of (by decide) (Nat.le_of_ble_eq_true rfl) ?_
  refine Z.eqL (lv' := [(0, .ref o)]) rfl ?_
  refine Z.aload_n (pc := 0) (i := 0) dX6_whoCanGoAlone_0 rfl rfl ?_
  refine Z.callVi (pc := 1) dX6_whoCanGoAlone_1 (c_X6_gone ho hR) zm_X6_74 zv_X6_gone (ro_s ho) rfl rfl rfl (by decide) (by decide) (Nat.le_of_ble_eq_true rfl) ?_
  refine Z.istore_n (pc := 4) (i := 1) dX6_whoCanGoAlone_4 rfl (by decide) rfl ?_
  refine Z.aload_n (pc := 5) (i := 0) dX6_whoCanGoAlone_5 rfl rfl ?_
  refine Z.iload_n (pc := 6) (i := 1) dX6_whoCanGoAlone_6 rfl rfl ?_
  refine Z.callVi (pc := 7) dX6_whoCanGoAlone_7 (c_X6_countTogether ho hR _ (gon_lt n hr)) zm_X6_77 zv_X6_countTogether (ro_s ho) rfl rfl rfl (by decide) (by decide) (Nat.le_of_ble_eq_true rfl) ?_
  refine Z.istore_n (pc := 10) (i := 2) dX6_whoCanGoAlone_10 rfl (by decide) rfl ?_
  refine Z.iconst (pc := 11) (v := (nI 0)) dX6_whoCanGoAlone_11 (by decide) ?_
  refine Z.istore_n (pc := 12) (i := 3) dX6_whoCanGoAlone_12 rfl (by decide) rfl ?_
  refine Z.iconst (pc := 13) (v := (nI 0)) dX6_whoCanGoAlone_13 (by decide) ?_
  refine Z.istore (pc := 14) (i := 4) dX6_whoCanGoAlone_14 (by decide) rfl ?_
  exact l_X6_whoCanGoAlone ho hR 8 0 0 rfl rfl
set_option maxRecDepth 100000 in
set_option maxHeartbeats 400000 in
theorem c_X6_makeLessShy {h : hp} {o n hr : Nat} {k s f : Nat → Int32} (ho : ro o) (hR : Rm h o n hr k s f) (g : Nat) (hg : g < n)  : Cn yX6_makeLessShy cX6_makeLessShy 2 none 1 [.ref o, .int (nI g)] h (z_eq none (z_up h (o + 2) g (lsI (s g)))) := by
  obtain ⟨-, -, -, -, rfl, rfl, rfl⟩ := id hR
  have hn8 := hR.2.2.2.1.1
  obtain ⟨a, ha, hsa⟩ := hR.2.2.2.1.2.2.1 g hg
  refine Cn.of (by decide) (Nat.le_of_ble_eq_true rfl) ?_
  refine Z.eqL (lv' := [(0, .ref o), (1, .int (nI g))]) rfl ?_
  refine Z.aload_n (pc := 0) (i := 0) dX6_makeLessShy_0 rfl rfl ?_
  refine Z.getR (pc := 1) dX6_makeLessShy_1 zf_X6_15 (ro_s ho) rfl ?_
  refine Z.iload_n (pc := 4) (i := 1) dX6_makeLessShy_4 rfl rfl ?_
  refine Z.iconst (pc := 5) (v := (0)) dX6_makeLessShy_5 (by decide) ?_
  refine Z.aload_n (pc := 6) (i := 0) dX6_makeLessShy_6 rfl rfl ?_
  refine Z.getR (pc := 7) dX6_makeLessShy_7 zf_X6_15 (ro_s ho) rfl ?_
  refine Z.iload_n (pc := 10) (i := 1) dX6_makeLessShy_10 rfl rfl ?_
  refine Z.iald (pc := 11) dX6_makeLessShy_11 (ro_2 ho) (by omega) (by decide) ?_
  refine Z.top (hsa) ?_
  refine Z.iconst (pc := 12) (v := (1)) dX6_makeLessShy_12 (by decide) ?_
  refine Z.isub (pc := 13) dX6_makeLessShy_13 ?_
  refine Z.mmax (pc := 14) dX6_makeLessShy_14 zm_X6_98 (by decide) (Nat.le_of_ble_eq_true rfl) ?_
  refine Z.top (show maxI 0 (nI a - 1) = lsI (h.1 (o + 2) g) from by rw [hsa, lsI_nI ha]; exact lsI_max a (by omega)) ?_
  refine Z.iast (pc := 17) dX6_makeLessShy_17 (ro_2 ho) (by omega) (by decide) ?_
  refine Z.vret (pc := 18) dX6_makeLessShy_18 rfl ?_
  exact ⟨rfl, rfl⟩
theorem Rm_row2 {h : hp} {o n hr : Nat} {k s f s' : Nat → Int32} (hR : Rm h o n hr k s f) (hK : Rk n k s' f) : Rm (z_row h (o + 2) s') o n hr k s' f := by
  obtain ⟨h1, h2, h3, h4, h5, h6, h7⟩ := hR
  refine ⟨?_, ?_, h3, hK, ?_, z_row_at _ _ _, ?_⟩
  · rw [z_row_ne (by omega)]; exact h1
  · rw [z_row_ne (by omega)]; exact h2
  · rw [z_row_ne (by omega)]; exact h5
  · rw [z_row_ne (by omega)]; exact h7
theorem Rm_here {h : hp} {o n hr a : Nat} {k s f : Nat → Int32} (hR : Rm h o n hr k s f) (ha : a < 2 ^ n) : Rm (z_up h o 4 (nI a)) o n a k s f := by
  obtain ⟨h1, h2, h3, h4, h5, h6, h7⟩ := hR
  refine ⟨?_, z_up_at _ _ _ _, ha, h4, ?_, ?_, ?_⟩
  · rw [z_up_nf (by decide)]; exact h1
  · rw [z_up_ne (by omega)]; exact h5
  · rw [z_up_ne (by omega)]; exact h6
  · rw [z_up_ne (by omega)]; exact h7
theorem Rm_up {h : hp} {o n hr j : Nat} {v : Int32} {k s f : Nat → Int32} (hR : Rm h o n hr k s f) (h3 : j ≠ 3) (h4 : j ≠ 4) : Rm (z_up h o j v) o n hr k s f := by
  obtain ⟨g1, g2, g3, g4, g5, g6, g7⟩ := hR
  refine ⟨?_, ?_, g3, g4, ?_, ?_, ?_⟩
  · rw [z_up_nf (Ne.symm h3)]; exact g1
  · rw [z_up_nf (Ne.symm h4)]; exact g2
  · rw [z_up_ne (by omega)]; exact g5
  · rw [z_up_ne (by omega)]; exact g6
  · rw [z_up_ne (by omega)]; exact g7
set_option maxRecDepth 100000 in
set_option maxHeartbeats 400000 in
theorem l_X6_makeAllLessShy {h : hp} {o n hr : Nat} {k s f : Nat → Int32} (ho : ro o) (hR : Rm h o n hr k s f) : ∀ (r i : Nat) , i + r = 8 → Z yX6_makeAllLessShy cX6_makeAllLessShy 2 none 2 (z_eq none (z_row h (o + 2) (lesR s hr 8))) 2 [(0, .ref o), (1, .int (nI i))] [] (z_row h (o + 2) (lesR s hr i)) := by
  have hn8 := hR.2.2.2.1.1
  intro r
  induction r with
  | zero =>
    intro i hi
    obtain rfl : i = 8 := by omega
    refine Z.iload_n (pc := 2) (i := 1) dX6_makeAllLessShy_2 rfl rfl ?_
    refine Z.bipush (pc := 3) (v := (nI 8)) dX6_makeAllLessShy_3 (by decide) ?_
    refine Z.icmp_ge_t (pc := 5) (tgt := 27) dX6_makeAllLessShy_5 (by decide) (nI_le (Nat.le_refl 8) (by decide)) ?_
    refine Z.vret (pc := 27) dX6_makeAllLessShy_27 rfl ?_
    exact ⟨rfl, rfl⟩
  | succ r ih =>
    intro i hi
    have hRi := Rm_row2 hR (Rk_les hR.2.2.2.1 hr i)
    refine Z.iload_n (pc := 2) (i := 1) dX6_makeAllLessShy_2 rfl rfl ?_
    refine Z.bipush (pc := 3) (v := (nI 8)) dX6_makeAllLessShy_3 (by decide) ?_
    refine Z.icmp_ge_f (pc := 5) (tgt := 27) dX6_makeAllLessShy_5 (by decide) (nI_ge (by omega) (by decide)) ?_
    refine Z.aload_n (pc := 8) (i := 0) dX6_makeAllLessShy_8 rfl rfl ?_
    refine Z.iload_n (pc := 9) (i := 1) dX6_makeAllLessShy_9 rfl rfl ?_
    refine Z.callVi (pc := 10) dX6_makeAllLessShy_10 (c_X6_isHere ho hRi i (by omega)) zm_X6_89 zv_X6_isHere (ro_s ho) rfl rfl rfl (by decide) (by decide) (Nat.le_of_ble_eq_true rfl) ?_
    refine Z.if_eq_b (pc := 13) (tgt := 21) dX6_makeAllLessShy_13 (by decide) (fun c13 => ?_) (fun c13 => ?_)
    · rw [lesR_f c13]
      refine Z.iinc (pc := 21) (i := 1) (v := (nI (i + 1))) dX6_makeAllLessShy_21 rfl (by exact ii_1 i) (by decide) rfl ?_
      refine Z.goto (pc := 24) (tgt := 2) dX6_makeAllLessShy_24 (by decide) ?_
      exact ih (i + 1) (by omega)
    · have hin : i < n := tb_lt hR.2.2.1 c13
      refine Z.aload_n (pc := 16) (i := 0) dX6_makeAllLessShy_16 rfl rfl ?_
      refine Z.iload_n (pc := 17) (i := 1) dX6_makeAllLessShy_17 rfl rfl ?_
      refine Z.callVv (pc := 18) dX6_makeAllLessShy_18 (c_X6_makeLessShy ho hRi i hin) zm_X6_109 zv_X6_makeLessShy (ro_s ho) rfl rfl rfl (by decide) (by decide) (Nat.le_of_ble_eq_true rfl) ?_
      rw [z_up_row, z_row_at, z_row_row, lesR_i, lesR_t c13]
      refine Z.iinc (pc := 21) (i := 1) (v := (nI (i + 1))) dX6_makeAllLessShy_21 rfl (by exact ii_1 i) (by decide) rfl ?_
      refine Z.goto (pc := 24) (tgt := 2) dX6_makeAllLessShy_24 (by decide) ?_
      exact ih (i + 1) (by omega)
set_option maxRecDepth 100000 in
set_option maxHeartbeats 400000 in
theorem c_X6_makeAllLessShy {h : hp} {o n hr : Nat} {k s f : Nat → Int32} (ho : ro o) (hR : Rm h o n hr k s f)  : Cn yX6_makeAllLessShy cX6_makeAllLessShy 2 none 2 [.ref o] h (z_eq none (z_row h (o + 2) (lesR s hr 8))) := by
  refine Cn.of (by decide) (Nat.le_of_ble_eq_true rfl) ?_
  refine Z.eqL (lv' := [(0, .ref o)]) rfl ?_
  refine Z.iconst (pc := 0) (v := (nI 0)) dX6_makeAllLessShy_0 (by decide) ?_
  refine Z.istore_n (pc := 1) (i := 1) dX6_makeAllLessShy_1 rfl (by decide) rfl ?_
  have e := l_X6_makeAllLessShy ho hR 8 0 rfl
  rw [lesR_0, ← hR.2.2.2.2.2.1, z_row_id] at e
  rw [hR.2.2.2.2.2.1] at e
  exact e
set_option maxRecDepth 100000 in
set_option maxHeartbeats 400000 in
theorem l_X6_goOneByOne {h : hp} {o n hr : Nat} {k s f : Nat → Int32} (ho : ro o) (hR : Rm h o n hr k s f) {X : Nat} : ∀ (r i : Nat) (a : Nat), i + r = 8 → a < 2 ^ n → goN k s f n r a = X → Z yX6_goOneByOne cX6_goOneByOne 4 none 3 (z_eq none (z_up h o 4 (nI X))) 7 [(0, .ref o), (1, .int (nI (alo k s f n a))), (2, .int (nI i))] [] (z_up h o 4 (nI a)) := by
  have hn8 := hR.2.2.2.1.1
  intro r
  induction r with
  | zero =>
    intro i a hi ha hX
    obtain rfl : i = 8 := by omega
    refine Z.iload_n (pc := 7) (i := 2) dX6_goOneByOne_7 rfl rfl ?_
    refine Z.bipush (pc := 8) (v := (nI 8)) dX6_goOneByOne_8 (by decide) ?_
    refine Z.icmp_ge_t (pc := 10) (tgt := 45) dX6_goOneByOne_10 (by decide) (nI_le (Nat.le_refl 8) (by decide)) ?_
    refine Z.vret (pc := 45) dX6_goOneByOne_45 rfl ?_
    exact ⟨rfl, by rw [← hX]; rfl⟩
  | succ r ih =>
    intro i a hi ha hX
    have hp := p8 hn8
    have hal := alo_lt (k := k) (s := s) (f := f) ha
    refine Z.iload_n (pc := 7) (i := 2) dX6_goOneByOne_7 rfl rfl ?_
    refine Z.bipush (pc := 8) (v := (nI 8)) dX6_goOneByOne_8 (by decide) ?_
    refine Z.icmp_ge_f (pc := 10) (tgt := 45) dX6_goOneByOne_10 (by decide) (nI_ge (by omega) (by decide)) ?_
    refine Z.iload_n (pc := 13) (i := 1) dX6_goOneByOne_13 rfl rfl ?_
    refine Z.if_eq (pc := 14) (tgt := 45) dX6_goOneByOne_14 (by decide) (fun c14 => ?_) (fun c14 => ?_)
    · have h0 : alo k s f n a = 0 := by rw [← nI_0] at c14; exact (nI_eq (by omega) (by decide)).mp c14
      have eX : a = X := by rw [← hX, goN, if_pos h0]
      subst eX
      refine Z.vret (pc := 45) dX6_goOneByOne_45 rfl ?_
      exact ⟨rfl, rfl⟩
    · have h0 : ¬ alo k s f n a = 0 := fun q => c14 (by rw [q]; rfl)
      refine Z.iload_n (pc := 17) (i := 1) dX6_goOneByOne_17 rfl rfl ?_
      refine Z.iload_n (pc := 18) (i := 1) dX6_goOneByOne_18 rfl rfl ?_
      refine Z.ineg (pc := 19) dX6_goOneByOne_19 ?_
      refine Z.iand (pc := 20) dX6_goOneByOne_20 ?_
      refine Z.top (low_all _ (by omega) h0) ?_
      refine Z.istore_n (pc := 21) (i := 3) dX6_goOneByOne_21 rfl (by decide) rfl ?_
      refine Z.aload_n (pc := 22) (i := 0) dX6_goOneByOne_22 rfl rfl ?_
      refine Z.dup (pc := 23) dX6_goOneByOne_23 rfl ?_
      refine Z.getIv (pc := 24) dX6_goOneByOne_24 zf_X6_33 (ro_s ho) rfl (z_up_at _ _ _ _) ?_
      refine Z.iload_n (pc := 27) (i := 3) dX6_goOneByOne_27 rfl rfl ?_
      refine Z.iconst (pc := 28) (v := (-1)) dX6_goOneByOne_28 (by decide) ?_
      refine Z.ixor (pc := 29) dX6_goOneByOne_29 ?_
      refine Z.iand (pc := 30) dX6_goOneByOne_30 ?_
      refine Z.top (nb_dif _ _) ?_
      refine Z.putI (pc := 31) dX6_goOneByOne_31 zp_X6_33 (ro_s ho) rfl rfl rfl ?_
      rw [z_up_up]
      refine Z.aload_n (pc := 34) (i := 0) dX6_goOneByOne_34 rfl rfl ?_
      refine Z.callVi (pc := 35) dX6_goOneByOne_35 (c_X6_whoCanGoAlone ho (Rm_here hR (dif_lt ha))) zm_X6_113 zv_X6_whoCanGoAlone (ro_s ho) rfl rfl rfl (by decide) (by decide) (Nat.le_of_ble_eq_true rfl) ?_
      refine Z.istore_n (pc := 38) (i := 1) dX6_goOneByOne_38 rfl (by decide) rfl ?_
      refine Z.iinc (pc := 39) (i := 2) (v := (nI (i + 1))) dX6_goOneByOne_39 rfl (by exact ii_1 i) (by decide) rfl ?_
      refine Z.goto (pc := 42) (tgt := 7) dX6_goOneByOne_42 (by decide) ?_
      refine Z.drop 3 ?_
      exact ih (i + 1) _ (by omega) (dif_lt ha) (by rw [← hX, goN, if_neg h0])
set_option maxRecDepth 100000 in
set_option maxHeartbeats 400000 in
theorem c_X6_goOneByOne {h : hp} {o n hr : Nat} {k s f : Nat → Int32} (ho : ro o) (hR : Rm h o n hr k s f)  : Cn yX6_goOneByOne cX6_goOneByOne 4 none 3 [.ref o] h (z_eq none (z_up h o 4 (nI (goN k s f n 8 hr)))) := by
  refine Cn.of (by decide) (Nat.le_of_ble_eq_true rfl) ?_
  refine Z.eqL (lv' := [(0, .ref o)]) rfl ?_
  refine Z.aload_n (pc := 0) (i := 0) dX6_goOneByOne_0 rfl rfl ?_
  refine Z.callVi (pc := 1) dX6_goOneByOne_1 (c_X6_whoCanGoAlone ho hR) zm_X6_113 zv_X6_whoCanGoAlone (ro_s ho) rfl rfl rfl (by decide) (by decide) (Nat.le_of_ble_eq_true rfl) ?_
  refine Z.istore_n (pc := 4) (i := 1) dX6_goOneByOne_4 rfl (by decide) rfl ?_
  refine Z.iconst (pc := 5) (v := (nI 0)) dX6_goOneByOne_5 (by decide) ?_
  refine Z.istore_n (pc := 6) (i := 2) dX6_goOneByOne_6 rfl (by decide) rfl ?_
  have e := l_X6_goOneByOne ho hR (X := goN k s f n 8 hr) 8 0 hr rfl hR.2.2.1 rfl
  rw [z_up_id hR.2.1] at e
  exact e
def cpX (h : hp) (o p : Nat) : hp := z_up (z_up (z_up (z_up (z_row (z_row (z_row h (o + 1) (h.1 (p + 1))) (o + 2) (h.1 (p + 2))) (o + 3) (h.1 (p + 3))) o 3 (h.1 p 3)) o 4 (h.1 p 4)) o 5 (h.1 p 5)) o 6 (h.1 p 6)
set_option maxRecDepth 100000 in
set_option maxHeartbeats 400000 in
theorem c_X6_copyFrom_19_3 {h : hp} (z1 : va_cpy (h.1 4) (h.1 20) 0 0 8 = h.1 4) (z2 : va_cpy (h.1 5) (h.1 21) 0 0 8 = h.1 5) (z3 : va_cpy (h.1 6) (h.1 22) 0 0 8 = h.1 6) : Cn yX6_copyFrom cX6_copyFrom 2 none 1 [.ref 19, .ref 3] h (z_eq none (cpX h 19 3)) := by
  refine Cn.of (by decide) (Nat.le_of_ble_eq_true rfl) ?_
  refine Z.eqL (lv' := [(0, .ref 19), (1, .ref 3)]) rfl ?_
  refine Z.aload_n (pc := 0) (i := 1) dX6_copyFrom_0 rfl rfl ?_
  refine Z.getR (pc := 1) dX6_copyFrom_1 zf_X6_9 rfl rfl ?_
  refine Z.iconst (pc := 4) (v := (0)) dX6_copyFrom_4 (by decide) ?_
  refine Z.aload_n (pc := 5) (i := 0) dX6_copyFrom_5 rfl rfl ?_
  refine Z.getR (pc := 6) dX6_copyFrom_6 zf_X6_9 rfl rfl ?_
  refine Z.iconst (pc := 9) (v := (0)) dX6_copyFrom_9 (by decide) ?_
  refine Z.bipush (pc := 10) (v := (8)) dX6_copyFrom_10 (by decide) ?_
  refine Z.copy8 (pc := 12) dX6_copyFrom_12 rfl rfl rfl (by decide) (Nat.le_of_ble_eq_true rfl) ?_
  refine Z.eqH (h' := (z_row h 20 (h.1 4))) (congrArg (z_row h 20) z1) ?_
  refine Z.aload_n (pc := 15) (i := 1) dX6_copyFrom_15 rfl rfl ?_
  refine Z.getR (pc := 16) dX6_copyFrom_16 zf_X6_15 rfl rfl ?_
  refine Z.iconst (pc := 19) (v := (0)) dX6_copyFrom_19 (by decide) ?_
  refine Z.aload_n (pc := 20) (i := 0) dX6_copyFrom_20 rfl rfl ?_
  refine Z.getR (pc := 21) dX6_copyFrom_21 zf_X6_15 rfl rfl ?_
  refine Z.iconst (pc := 24) (v := (0)) dX6_copyFrom_24 (by decide) ?_
  refine Z.bipush (pc := 25) (v := (8)) dX6_copyFrom_25 (by decide) ?_
  refine Z.copy8 (pc := 27) dX6_copyFrom_27 rfl rfl rfl (by decide) (Nat.le_of_ble_eq_true rfl) ?_
  refine Z.eqH (h' := (z_row (z_row h 20 (h.1 4)) 21 (h.1 5))) (congrArg (z_row (z_row h 20 (h.1 4)) 21) z2) ?_
  refine Z.aload_n (pc := 30) (i := 1) dX6_copyFrom_30 rfl rfl ?_
  refine Z.getR (pc := 31) dX6_copyFrom_31 zf_X6_18 rfl rfl ?_
  refine Z.iconst (pc := 34) (v := (0)) dX6_copyFrom_34 (by decide) ?_
  refine Z.aload_n (pc := 35) (i := 0) dX6_copyFrom_35 rfl rfl ?_
  refine Z.getR (pc := 36) dX6_copyFrom_36 zf_X6_18 rfl rfl ?_
  refine Z.iconst (pc := 39) (v := (0)) dX6_copyFrom_39 (by decide) ?_
  refine Z.bipush (pc := 40) (v := (8)) dX6_copyFrom_40 (by decide) ?_
  refine Z.copy8 (pc := 42) dX6_copyFrom_42 rfl rfl rfl (by decide) (Nat.le_of_ble_eq_true rfl) ?_
  refine Z.eqH (h' := (z_row (z_row (z_row h 20 (h.1 4)) 21 (h.1 5)) 22 (h.1 6))) (congrArg (z_row (z_row (z_row h 20 (h.1 4)) 21 (h.1 5)) 22) z3) ?_
  refine Z.aload_n (pc := 45) (i := 0) dX6_copyFrom_45 rfl rfl ?_
  refine Z.aload_n (pc := 46) (i := 1) dX6_copyFrom_46 rfl rfl ?_
  refine Z.getIv (pc := 47) dX6_copyFrom_47 zf_X6_27 rfl rfl (show _ = h.1 3 3 from rfl) ?_
  refine Z.putI (pc := 50) dX6_copyFrom_50 zp_X6_27 rfl rfl rfl rfl ?_
  refine Z.aload_n (pc := 53) (i := 0) dX6_copyFrom_53 rfl rfl ?_
  refine Z.aload_n (pc := 54) (i := 1) dX6_copyFrom_54 rfl rfl ?_
  refine Z.getIv (pc := 55) dX6_copyFrom_55 zf_X6_33 rfl rfl (show _ = h.1 3 4 from rfl) ?_
  refine Z.putI (pc := 58) dX6_copyFrom_58 zp_X6_33 rfl rfl rfl rfl ?_
  refine Z.aload_n (pc := 61) (i := 0) dX6_copyFrom_61 rfl rfl ?_
  refine Z.aload_n (pc := 62) (i := 1) dX6_copyFrom_62 rfl rfl ?_
  refine Z.getIv (pc := 63) dX6_copyFrom_63 zf_X6_40 rfl rfl (show _ = h.1 3 5 from rfl) ?_
  refine Z.putI (pc := 66) dX6_copyFrom_66 zp_X6_40 rfl rfl rfl rfl ?_
  refine Z.aload_n (pc := 69) (i := 0) dX6_copyFrom_69 rfl rfl ?_
  refine Z.aload_n (pc := 70) (i := 1) dX6_copyFrom_70 rfl rfl ?_
  refine Z.getIv (pc := 71) dX6_copyFrom_71 zf_X6_43 rfl rfl (show _ = h.1 3 6 from rfl) ?_
  refine Z.putI (pc := 74) dX6_copyFrom_74 zp_X6_43 rfl rfl rfl rfl ?_
  refine Z.vret (pc := 77) dX6_copyFrom_77 rfl ?_
  exact ⟨rfl, rfl⟩
set_option maxRecDepth 100000 in
set_option maxHeartbeats 400000 in
theorem c_X6_copyFrom_11_3 {h : hp} (z1 : va_cpy (h.1 4) (h.1 12) 0 0 8 = h.1 4) (z2 : va_cpy (h.1 5) (h.1 13) 0 0 8 = h.1 5) (z3 : va_cpy (h.1 6) (h.1 14) 0 0 8 = h.1 6) : Cn yX6_copyFrom cX6_copyFrom 2 none 1 [.ref 11, .ref 3] h (z_eq none (cpX h 11 3)) := by
  refine Cn.of (by decide) (Nat.le_of_ble_eq_true rfl) ?_
  refine Z.eqL (lv' := [(0, .ref 11), (1, .ref 3)]) rfl ?_
  refine Z.aload_n (pc := 0) (i := 1) dX6_copyFrom_0 rfl rfl ?_
  refine Z.getR (pc := 1) dX6_copyFrom_1 zf_X6_9 rfl rfl ?_
  refine Z.iconst (pc := 4) (v := (0)) dX6_copyFrom_4 (by decide) ?_
  refine Z.aload_n (pc := 5) (i := 0) dX6_copyFrom_5 rfl rfl ?_
  refine Z.getR (pc := 6) dX6_copyFrom_6 zf_X6_9 rfl rfl ?_
  refine Z.iconst (pc := 9) (v := (0)) dX6_copyFrom_9 (by decide) ?_
  refine Z.bipush (pc := 10) (v := (8)) dX6_copyFrom_10 (by decide) ?_
  refine Z.copy8 (pc := 12) dX6_copyFrom_12 rfl rfl rfl (by decide) (Nat.le_of_ble_eq_true rfl) ?_
  refine Z.eqH (h' := (z_row h 12 (h.1 4))) (congrArg (z_row h 12) z1) ?_
  refine Z.aload_n (pc := 15) (i := 1) dX6_copyFrom_15 rfl rfl ?_
  refine Z.getR (pc := 16) dX6_copyFrom_16 zf_X6_15 rfl rfl ?_
  refine Z.iconst (pc := 19) (v := (0)) dX6_copyFrom_19 (by decide) ?_
  refine Z.aload_n (pc := 20) (i := 0) dX6_copyFrom_20 rfl rfl ?_
  refine Z.getR (pc := 21) dX6_copyFrom_21 zf_X6_15 rfl rfl ?_
  refine Z.iconst (pc := 24) (v := (0)) dX6_copyFrom_24 (by decide) ?_
  refine Z.bipush (pc := 25) (v := (8)) dX6_copyFrom_25 (by decide) ?_
  refine Z.copy8 (pc := 27) dX6_copyFrom_27 rfl rfl rfl (by decide) (Nat.le_of_ble_eq_true rfl) ?_
  refine Z.eqH (h' := (z_row (z_row h 12 (h.1 4)) 13 (h.1 5))) (congrArg (z_row (z_row h 12 (h.1 4)) 13) z2) ?_
  refine Z.aload_n (pc := 30) (i := 1) dX6_copyFrom_30 rfl rfl ?_
  refine Z.getR (pc := 31) dX6_copyFrom_31 zf_X6_18 rfl rfl ?_
  refine Z.iconst (pc := 34) (v := (0)) dX6_copyFrom_34 (by decide) ?_
  refine Z.aload_n (pc := 35) (i := 0) dX6_copyFrom_35 rfl rfl ?_
  refine Z.getR (pc := 36) dX6_copyFrom_36 zf_X6_18 rfl rfl ?_
  refine Z.iconst (pc := 39) (v := (0)) dX6_copyFrom_39 (by decide) ?_
  refine Z.bipush (pc := 40) (v := (8)) dX6_copyFrom_40 (by decide) ?_
  refine Z.copy8 (pc := 42) dX6_copyFrom_42 rfl rfl rfl (by decide) (Nat.le_of_ble_eq_true rfl) ?_
  refine Z.eqH (h' := (z_row (z_row (z_row h 12 (h.1 4)) 13 (h.1 5)) 14 (h.1 6))) (congrArg (z_row (z_row (z_row h 12 (h.1 4)) 13 (h.1 5)) 14) z3) ?_
  refine Z.aload_n (pc := 45) (i := 0) dX6_copyFrom_45 rfl rfl ?_
  refine Z.aload_n (pc := 46) (i := 1) dX6_copyFrom_46 rfl rfl ?_
  refine Z.getIv (pc := 47) dX6_copyFrom_47 zf_X6_27 rfl rfl (show _ = h.1 3 3 from rfl) ?_
  refine Z.putI (pc := 50) dX6_copyFrom_50 zp_X6_27 rfl rfl rfl rfl ?_
  refine Z.aload_n (pc := 53) (i := 0) dX6_copyFrom_53 rfl rfl ?_
  refine Z.aload_n (pc := 54) (i := 1) dX6_copyFrom_54 rfl rfl ?_
  refine Z.getIv (pc := 55) dX6_copyFrom_55 zf_X6_33 rfl rfl (show _ = h.1 3 4 from rfl) ?_
  refine Z.putI (pc := 58) dX6_copyFrom_58 zp_X6_33 rfl rfl rfl rfl ?_
  refine Z.aload_n (pc := 61) (i := 0) dX6_copyFrom_61 rfl rfl ?_
  refine Z.aload_n (pc := 62) (i := 1) dX6_copyFrom_62 rfl rfl ?_
  refine Z.getIv (pc := 63) dX6_copyFrom_63 zf_X6_40 rfl rfl (show _ = h.1 3 5 from rfl) ?_
  refine Z.putI (pc := 66) dX6_copyFrom_66 zp_X6_40 rfl rfl rfl rfl ?_
  refine Z.aload_n (pc := 69) (i := 0) dX6_copyFrom_69 rfl rfl ?_
  refine Z.aload_n (pc := 70) (i := 1) dX6_copyFrom_70 rfl rfl ?_
  refine Z.getIv (pc := 71) dX6_copyFrom_71 zf_X6_43 rfl rfl (show _ = h.1 3 6 from rfl) ?_
  refine Z.putI (pc := 74) dX6_copyFrom_74 zp_X6_43 rfl rfl rfl rfl ?_
  refine Z.vret (pc := 77) dX6_copyFrom_77 rfl ?_
  exact ⟨rfl, rfl⟩
set_option maxRecDepth 100000 in
set_option maxHeartbeats 400000 in
theorem c_X6_copyFrom_3_11 {h : hp} (z1 : va_cpy (h.1 12) (h.1 4) 0 0 8 = h.1 12) (z2 : va_cpy (h.1 13) (h.1 5) 0 0 8 = h.1 13) (z3 : va_cpy (h.1 14) (h.1 6) 0 0 8 = h.1 14) : Cn yX6_copyFrom cX6_copyFrom 2 none 1 [.ref 3, .ref 11] h (z_eq none (cpX h 3 11)) := by
  refine Cn.of (by decide) (Nat.le_of_ble_eq_true rfl) ?_
  refine Z.eqL (lv' := [(0, .ref 3), (1, .ref 11)]) rfl ?_
  refine Z.aload_n (pc := 0) (i := 1) dX6_copyFrom_0 rfl rfl ?_
  refine Z.getR (pc := 1) dX6_copyFrom_1 zf_X6_9 rfl rfl ?_
  refine Z.iconst (pc := 4) (v := (0)) dX6_copyFrom_4 (by decide) ?_
  refine Z.aload_n (pc := 5) (i := 0) dX6_copyFrom_5 rfl rfl ?_
  refine Z.getR (pc := 6) dX6_copyFrom_6 zf_X6_9 rfl rfl ?_
  refine Z.iconst (pc := 9) (v := (0)) dX6_copyFrom_9 (by decide) ?_
  refine Z.bipush (pc := 10) (v := (8)) dX6_copyFrom_10 (by decide) ?_
  refine Z.copy8 (pc := 12) dX6_copyFrom_12 rfl rfl rfl (by decide) (Nat.le_of_ble_eq_true rfl) ?_
  refine Z.eqH (h' := (z_row h 4 (h.1 12))) (congrArg (z_row h 4) z1) ?_
  refine Z.aload_n (pc := 15) (i := 1) dX6_copyFrom_15 rfl rfl ?_
  refine Z.getR (pc := 16) dX6_copyFrom_16 zf_X6_15 rfl rfl ?_
  refine Z.iconst (pc := 19) (v := (0)) dX6_copyFrom_19 (by decide) ?_
  refine Z.aload_n (pc := 20) (i := 0) dX6_copyFrom_20 rfl rfl ?_
  refine Z.getR (pc := 21) dX6_copyFrom_21 zf_X6_15 rfl rfl ?_
  refine Z.iconst (pc := 24) (v := (0)) dX6_copyFrom_24 (by decide) ?_
  refine Z.bipush (pc := 25) (v := (8)) dX6_copyFrom_25 (by decide) ?_
  refine Z.copy8 (pc := 27) dX6_copyFrom_27 rfl rfl rfl (by decide) (Nat.le_of_ble_eq_true rfl) ?_
  refine Z.eqH (h' := (z_row (z_row h 4 (h.1 12)) 5 (h.1 13))) (congrArg (z_row (z_row h 4 (h.1 12)) 5) z2) ?_
  refine Z.aload_n (pc := 30) (i := 1) dX6_copyFrom_30 rfl rfl ?_
  refine Z.getR (pc := 31) dX6_copyFrom_31 zf_X6_18 rfl rfl ?_
  refine Z.iconst (pc := 34) (v := (0)) dX6_copyFrom_34 (by decide) ?_
  refine Z.aload_n (pc := 35) (i := 0) dX6_copyFrom_35 rfl rfl ?_
  refine Z.getR (pc := 36) dX6_copyFrom_36 zf_X6_18 rfl rfl ?_
  refine Z.iconst (pc := 39) (v := (0)) dX6_copyFrom_39 (by decide) ?_
  refine Z.bipush (pc := 40) (v := (8)) dX6_copyFrom_40 (by decide) ?_
  refine Z.copy8 (pc := 42) dX6_copyFrom_42 rfl rfl rfl (by decide) (Nat.le_of_ble_eq_true rfl) ?_
  refine Z.eqH (h' := (z_row (z_row (z_row h 4 (h.1 12)) 5 (h.1 13)) 6 (h.1 14))) (congrArg (z_row (z_row (z_row h 4 (h.1 12)) 5 (h.1 13)) 6) z3) ?_
  refine Z.aload_n (pc := 45) (i := 0) dX6_copyFrom_45 rfl rfl ?_
  refine Z.aload_n (pc := 46) (i := 1) dX6_copyFrom_46 rfl rfl ?_
  refine Z.getIv (pc := 47) dX6_copyFrom_47 zf_X6_27 rfl rfl (show _ = h.1 11 3 from rfl) ?_
  refine Z.putI (pc := 50) dX6_copyFrom_50 zp_X6_27 rfl rfl rfl rfl ?_
  refine Z.aload_n (pc := 53) (i := 0) dX6_copyFrom_53 rfl rfl ?_
  refine Z.aload_n (pc := 54) (i := 1) dX6_copyFrom_54 rfl rfl ?_
  refine Z.getIv (pc := 55) dX6_copyFrom_55 zf_X6_33 rfl rfl (show _ = h.1 11 4 from rfl) ?_
  refine Z.putI (pc := 58) dX6_copyFrom_58 zp_X6_33 rfl rfl rfl rfl ?_
  refine Z.aload_n (pc := 61) (i := 0) dX6_copyFrom_61 rfl rfl ?_
  refine Z.aload_n (pc := 62) (i := 1) dX6_copyFrom_62 rfl rfl ?_
  refine Z.getIv (pc := 63) dX6_copyFrom_63 zf_X6_40 rfl rfl (show _ = h.1 11 5 from rfl) ?_
  refine Z.putI (pc := 66) dX6_copyFrom_66 zp_X6_40 rfl rfl rfl rfl ?_
  refine Z.aload_n (pc := 69) (i := 0) dX6_copyFrom_69 rfl rfl ?_
  refine Z.aload_n (pc := 70) (i := 1) dX6_copyFrom_70 rfl rfl ?_
  refine Z.getIv (pc := 71) dX6_copyFrom_71 zf_X6_43 rfl rfl (show _ = h.1 11 6 from rfl) ?_
  refine Z.putI (pc := 74) dX6_copyFrom_74 zp_X6_43 rfl rfl rfl rfl ?_
  refine Z.vret (pc := 77) dX6_copyFrom_77 rfl ?_
  exact ⟨rfl, rfl⟩
set_option maxRecDepth 100000 in
set_option maxHeartbeats 400000 in
theorem c_X6_letHourPass {h : hp} {o n hr : Nat} {k s f : Nat → Int32} (ho : ro o) (hR : Rm h o n hr k s f) {fd : Nat} (hfd : h.1 o 5 = nI fd) (hf9 : fd ≤ 99)  : Cn yX6_letHourPass cX6_letHourPass 2 (some .int) 4 [.ref o] h (z_eq (some (.int (nI (pop hr) - nI (pop (hsH k s f n hr fd))))) (hrX h o (hsS s hr fd) (fd - pop hr) (hsH k s f n hr fd))) := by
  have hn8 := hR.2.2.2.1.1
  have hp8 := p8 hn8
  have hlt := hR.2.2.1
  have hR2 : Rm (z_up (z_up h o 6 (h.1 o 6 + 1)) o 5 (nI (fd - pop hr))) o n hr k s f := Rm_up (Rm_up hR (by decide) (by decide)) (by decide) (by decide)
  refine Cn.of (by decide) (Nat.le_of_ble_eq_true rfl) ?_
  refine Z.eqL (lv' := [(0, .ref o)]) rfl ?_
  refine Z.aload_n (pc := 0) (i := 0) dX6_letHourPass_0 rfl rfl ?_
  refine Z.getIv (pc := 1) dX6_letHourPass_1 zf_X6_33 (ro_s ho) rfl hR.2.1 ?_
  refine Z.callSi (pc := 4) dX6_letHourPass_4 (c_J6_bitCount_0f7a4 hr (by omega)) zm_X6_93 zs_J6_bitCount_0f7a4 rfl rfl (by decide) (by decide) (Nat.le_of_ble_eq_true rfl) ?_
  refine Z.istore_n (pc := 7) (i := 1) dX6_letHourPass_7 rfl (by decide) rfl ?_
  refine Z.aload_n (pc := 8) (i := 0) dX6_letHourPass_8 rfl rfl ?_
  refine Z.dup (pc := 9) dX6_letHourPass_9 rfl ?_
  refine Z.getI (pc := 10) dX6_letHourPass_10 zf_X6_43 (ro_s ho) rfl ?_
  refine Z.iconst (pc := 13) (v := (1)) dX6_letHourPass_13 (by decide) ?_
  refine Z.iadd (pc := 14) dX6_letHourPass_14 ?_
  refine Z.putI (pc := 15) dX6_letHourPass_15 zp_X6_43 (ro_s ho) rfl rfl rfl ?_
  refine Z.aload_n (pc := 18) (i := 0) dX6_letHourPass_18 rfl rfl ?_
  refine Z.iconst (pc := 19) (v := (0)) dX6_letHourPass_19 (by decide) ?_
  refine Z.aload_n (pc := 20) (i := 0) dX6_letHourPass_20 rfl rfl ?_
  refine Z.getIv (pc := 21) dX6_letHourPass_21 zf_X6_40 (ro_s ho) rfl (show _ = nI fd from by rw [z_up_nf (by decide)]; exact hfd) ?_
  refine Z.iload_n (pc := 24) (i := 1) dX6_letHourPass_24 rfl rfl ?_
  refine Z.isub (pc := 25) dX6_letHourPass_25 ?_
  refine Z.mmax (pc := 26) dX6_letHourPass_26 zm_X6_98 (by decide) (Nat.le_of_ble_eq_true rfl) ?_
  refine Z.top (max_sub (by omega) (by have := pop_le hr; omega)) ?_
  refine Z.putI (pc := 29) dX6_letHourPass_29 zp_X6_40 (ro_s ho) rfl rfl rfl ?_
  refine Z.aload_n (pc := 32) (i := 0) dX6_letHourPass_32 rfl rfl ?_
  refine Z.getIv (pc := 33) dX6_letHourPass_33 zf_X6_40 (ro_s ho) rfl (z_up_at _ _ _ _) ?_
  refine Z.if_ne (pc := 36) (tgt := 43) dX6_letHourPass_36 (by decide) (fun c36 => ?_) (fun c36 => ?_)
  · have e0 : ¬ fd - pop hr = 0 := fun q => c36 (by rw [q]; rfl)
    have eS : hsS s hr fd = s := by unfold hsS; rw [if_neg e0]
    have e3 : (z_up (z_up h o 6 (h.1 o 6 + 1)) o 5 (nI (fd - pop hr))) = z_row (z_up (z_up h o 6 (h.1 o 6 + 1)) o 5 (nI (fd - pop hr))) (o + 2) (hsS s hr fd) := by rw [eS]; have q := hR2.2.2.2.2.2.1; rw [← q, z_row_id]
    refine Z.eqH e3 ?_
    refine Z.aload_n (pc := 43) (i := 0) dX6_letHourPass_43 rfl rfl ?_
    refine Z.callVv (pc := 44) dX6_letHourPass_44 (c_X6_goOneByOne ho (Rm_row2 hR2 (Rk_hs hR.2.2.2.1 hr fd))) zm_X6_106 zv_X6_goOneByOne (ro_s ho) rfl rfl rfl (by decide) (by decide) (Nat.le_of_ble_eq_true rfl) ?_
    refine Z.iload_n (pc := 47) (i := 1) dX6_letHourPass_47 rfl rfl ?_
    refine Z.aload_n (pc := 48) (i := 0) dX6_letHourPass_48 rfl rfl ?_
    refine Z.getIv (pc := 49) dX6_letHourPass_49 zf_X6_33 (ro_s ho) rfl (z_up_at _ _ _ _) ?_
    refine Z.callSi (pc := 52) dX6_letHourPass_52 (c_J6_bitCount_0f7a4 _ (Nat.lt_of_lt_of_le (hsH_lt (s := s) hR.2.2.1) (by omega))) zm_X6_93 zs_J6_bitCount_0f7a4 rfl rfl (by decide) (by decide) (Nat.le_of_ble_eq_true rfl) ?_
    refine Z.isub (pc := 55) dX6_letHourPass_55 ?_
    refine Z.iret (pc := 56) (ty := .int) dX6_letHourPass_56 rfl rfl ?_
    exact ⟨rfl, rfl⟩
  · have e0 : fd - pop hr = 0 := by rw [← nI_0] at c36; exact (nI_eq (by omega) (by decide)).mp c36
    have eS : hsS s hr fd = lesR s hr 8 := by unfold hsS; rw [if_pos e0]
    refine Z.aload_n (pc := 39) (i := 0) dX6_letHourPass_39 rfl rfl ?_
    refine Z.callVv (pc := 40) dX6_letHourPass_40 (c_X6_makeAllLessShy ho hR2) zm_X6_103 zv_X6_makeAllLessShy (ro_s ho) rfl rfl rfl (by decide) (by decide) (Nat.le_of_ble_eq_true rfl) ?_
    rw [← eS]
    refine Z.aload_n (pc := 43) (i := 0) dX6_letHourPass_43 rfl rfl ?_
    refine Z.callVv (pc := 44) dX6_letHourPass_44 (c_X6_goOneByOne ho (Rm_row2 hR2 (Rk_hs hR.2.2.2.1 hr fd))) zm_X6_106 zv_X6_goOneByOne (ro_s ho) rfl rfl rfl (by decide) (by decide) (Nat.le_of_ble_eq_true rfl) ?_
    refine Z.iload_n (pc := 47) (i := 1) dX6_letHourPass_47 rfl rfl ?_
    refine Z.aload_n (pc := 48) (i := 0) dX6_letHourPass_48 rfl rfl ?_
    refine Z.getIv (pc := 49) dX6_letHourPass_49 zf_X6_33 (ro_s ho) rfl (z_up_at _ _ _ _) ?_
    refine Z.callSi (pc := 52) dX6_letHourPass_52 (c_J6_bitCount_0f7a4 _ (Nat.lt_of_lt_of_le (hsH_lt (s := s) hR.2.2.1) (by omega))) zm_X6_93 zs_J6_bitCount_0f7a4 rfl rfl (by decide) (by decide) (Nat.le_of_ble_eq_true rfl) ?_
    refine Z.isub (pc := 55) dX6_letHourPass_55 ?_
    refine Z.iret (pc := 56) (ty := .int) dX6_letHourPass_56 rfl rfl ?_
    exact ⟨rfl, rfl⟩
