set_option maxRecDepth 100000 in
set_option maxHeartbeats 400000 in
theorem l_X9_goHour2 {h : hp} {n hr : Nat} {k s f : zF} (hM : Mm h n hr k s f) {u : Int32} {K : Option Value → hp → Prop} (X : Nat) (hK : K (some (.int (nI (pop hr - pop X)))) (z_up h 30 4 (nI X))) : ∀ (r a : Nat), pop a < r → a < 2 ^ n → pop a ≤ pop hr → goN k s f n 8 a = X → Z yX9_goHour cX9_goHour 4 (some .int) 5 K 76 [(0, .ref 30), (1, .int u), (2, .int (nI (pop hr - pop a))), (3, .int (faI k s f n a))] [] (z_up h 30 4 (nI a)) := by
  have hn8 := hM.2.2.2.1.1
  have hp8 := p8 hn8
  have hlt := hM.2.2.1
  intro r
  induction r with
  | zero => intro a h0; exact absurd h0 (Nat.not_lt_zero _)
  | succ r ih =>
    intro a hr2 ha hpa hX
    refine Z.iload_n (pc := 76) (i := 3) dX9_goHour_76 rfl rfl ?_
    refine Z.iconst (pc := 77) (v := (-1)) dX9_goHour_77 (by decide) ?_
    refine Z.icmp_eq (pc := 78) (tgt := 106) dX9_goHour_78 (by decide) (fun c78 => ?_) (fun c78 => ?_)
    · have hz := fa_m1 c78 (by have := alo_lt (k := k) (s := s) (f := f) ha; omega)
      have eX : a = X := by rw [← hX, goN_end hz]
      refine Z.iload_n (pc := 106) (i := 2) dX9_goHour_106 rfl rfl ?_
      refine Z.iret (pc := 107) (ty := .int) dX9_goHour_107 rfl rfl ?_
      rw [eX]
      exact hK
    · obtain ⟨hz, eg⟩ := fa_nI c78
      obtain ⟨hgn, hgb⟩ := alo_bit hz ha hn8
      have hpd := pop_dif hgb (by omega)
      rw [eg]
      refine Z.aload_n (pc := 81) (i := 0) dX9_goHour_81 rfl rfl ?_
      refine Z.dup (pc := 82) dX9_goHour_82 rfl ?_
      refine Z.getIv (pc := 83) dX9_goHour_83 zf_X9_89 rfl rfl (z_up_at _ _ _ _) ?_
      refine Z.iconst (pc := 86) (v := (nI 1)) dX9_goHour_86 (by decide) ?_
      refine Z.iload_n (pc := 87) (i := 3) dX9_goHour_87 rfl rfl ?_
      refine Z.ishl (pc := 88) dX9_goHour_88 ?_
      refine Z.top (nb_shl (by omega)) ?_
      refine Z.iconst (pc := 89) (v := (-1)) dX9_goHour_89 (by decide) ?_
      refine Z.ixor (pc := 90) dX9_goHour_90 ?_
      refine Z.iand (pc := 91) dX9_goHour_91 ?_
      refine Z.top (nb_dif _ _) ?_
      refine Z.putI (pc := 92) dX9_goHour_92 zp_X9_89 rfl rfl rfl rfl ?_
      rw [z_up_up]
      refine Z.iinc (pc := 95) (i := 2) (v := (nI (pop hr - pop (dif a (2 ^ (fst8 (alo k s f n a))))))) dX9_goHour_95 rfl (by exact (ii_1 _).trans (congrArg nI (by omega))) (by decide) rfl ?_
      refine Z.aload_n (pc := 98) (i := 0) dX9_goHour_98 rfl rfl ?_
      refine Z.callVi (pc := 99) dX9_goHour_99 (c_X9_firstAlone (Mm_here hM (dif_lt ha))) zm_X9_161 zv_X9_firstAlone rfl rfl rfl rfl (by decide) (by decide) (Nat.le_of_ble_eq_true rfl) ?_
      refine Z.istore_n (pc := 102) (i := 3) dX9_goHour_102 rfl (by decide) rfl ?_
      refine Z.goto (pc := 103) (tgt := 76) dX9_goHour_103 (by decide) ?_
      exact ih _ (by omega) (dif_lt ha) (by omega) ((goN_go hn8 ha hz).trans hX)
set_option maxRecDepth 100000 in
set_option maxHeartbeats 400000 in
theorem l_X9_goHour1 {h : hp} {n hr : Nat} {k s f : zF} (hM : Mm h n hr k s f) {u v : Int32} {K : Option Value → hp → Prop} (X : Nat) (hX : goN k s f n 8 hr = X) (hK : K (some (.int (nI (pop hr - pop X)))) (z_up h 30 4 (nI X))) : Z yX9_goHour cX9_goHour 4 (some .int) 5 K 69 [(0, .ref 30), (1, .int u), (2, .int v)] [] h := by
  refine Z.iconst (pc := 69) (v := (nI 0)) dX9_goHour_69 (by decide) ?_
  refine Z.istore_n (pc := 70) (i := 2) dX9_goHour_70 rfl (by decide) rfl ?_
  refine Z.aload_n (pc := 71) (i := 0) dX9_goHour_71 rfl rfl ?_
  refine Z.callVi (pc := 72) dX9_goHour_72 (c_X9_firstAlone hM) zm_X9_161 zv_X9_firstAlone rfl rfl rfl rfl (by decide) (by decide) (Nat.le_of_ble_eq_true rfl) ?_
  refine Z.istore_n (pc := 75) (i := 3) dX9_goHour_75 rfl (by decide) rfl ?_
  have e := l_X9_goHour2 hM (u := u) X hK (pop hr + 1) hr (by omega) hM.2.2.1 (Nat.le_refl _) hX
  rw [Nat.sub_self, z_up_id hM.2.1] at e
  exact e
set_option maxRecDepth 100000 in
set_option maxHeartbeats 400000 in
theorem l_X9_goHour0 {h : hp} {n hr : Nat} {k s f : zF} (hM : Mm h n hr k s f) {u : Int32} {K : Option Value → hp → Prop} (h0 : h.1 30 2 = 0) (hk : ∀ v, Z yX9_goHour cX9_goHour 4 (some .int) 5 K 69 [(0, .ref 30), (1, .int u), (2, .int v)] [] (z_row h 32 (lesR s hr n))) : ∀ (r i : Nat) , i + r = n → Z yX9_goHour cX9_goHour 4 (some .int) 5 (K) 32 [(0, .ref 30), (1, .int u), (2, .int (nI i))] [] (z_row h 32 (lesR s hr i)) := by
  have hn8 := hM.2.2.2.1.1
  have hp8 := p8 hn8
  have hlt := hM.2.2.1
  intro r
  induction r with
  | zero =>
    intro i hi
    obtain rfl : n = i := by omega
    refine Z.iload_n (pc := 32) (i := 2) dX9_goHour_32 rfl rfl ?_
    refine Z.aload_n (pc := 33) (i := 0) dX9_goHour_33 rfl rfl ?_
    refine Z.getIv (pc := 34) dX9_goHour_34 zf_X9_83 rfl rfl hM.1 ?_
    refine Z.icmp_ge_t (pc := 37) (tgt := 69) dX9_goHour_37 (by decide) (nI_le (Nat.le_refl _) (by omega)) ?_
    exact hk _
  | succ r ih =>
    intro i hi
    have hMi := Mm_shy hM (Rk_les hM.2.2.2.1 hr i)
    refine Z.iload_n (pc := 32) (i := 2) dX9_goHour_32 rfl rfl ?_
    refine Z.aload_n (pc := 33) (i := 0) dX9_goHour_33 rfl rfl ?_
    refine Z.getIv (pc := 34) dX9_goHour_34 zf_X9_83 rfl rfl hMi.1 ?_
    refine Z.icmp_ge_f (pc := 37) (tgt := 69) dX9_goHour_37 (by decide) (nI_ge (by omega) (by omega)) ?_
    refine Z.aload_n (pc := 40) (i := 0) dX9_goHour_40 rfl rfl ?_
    refine Z.getIv (pc := 41) dX9_goHour_41 zf_X9_86 rfl rfl (show _ = (0 : Int32) from h0) ?_
    refine Z.if_ne_f (pc := 44) (tgt := 69) dX9_goHour_44 (by decide) (rfl) ?_
    refine Z.aload_n (pc := 47) (i := 0) dX9_goHour_47 rfl rfl ?_
    refine Z.getIv (pc := 48) dX9_goHour_48 zf_X9_89 rfl rfl hMi.2.1 ?_
    refine Z.iload_n (pc := 51) (i := 2) dX9_goHour_51 rfl rfl ?_
    refine Z.callSi (pc := 52) dX9_goHour_52 (c_X9_isIn hr i (by omega) (l31 hlt hn8)) zm_X9_105 zs_X9_isIn rfl rfl (by decide) (by decide) (Nat.le_of_ble_eq_true rfl) ?_
    refine Z.if_eq_b (pc := 55) (tgt := 63) dX9_goHour_55 (by decide) (fun c55 => ?_) (fun c55 => ?_)
    · rw [lesR_f c55]
      refine Z.iinc (pc := 63) (i := 2) (v := (nI (i + 1))) dX9_goHour_63 rfl (by exact ii_1 i) (by decide) rfl ?_
      refine Z.goto (pc := 66) (tgt := 32) dX9_goHour_66 (by decide) ?_
      exact ih (i + 1) (by omega)
    · have hin : i < n := by omega
      refine Z.aload_n (pc := 58) (i := 0) dX9_goHour_58 rfl rfl ?_
      refine Z.iload_n (pc := 59) (i := 2) dX9_goHour_59 rfl rfl ?_
      refine Z.callVv (pc := 60) dX9_goHour_60 (c_X9_shyLess hMi i hin) zm_X9_157 zv_X9_shyLess rfl rfl rfl rfl (by decide) (by decide) (Nat.le_of_ble_eq_true rfl) ?_
      rw [z_up_row, show (z_row h 32 (lesR s hr i)).1 32 = lesR s hr i from rfl, z_row_row, lesR_i, lesR_t c55]
      refine Z.iinc (pc := 63) (i := 2) (v := (nI (i + 1))) dX9_goHour_63 rfl (by exact ii_1 i) (by decide) rfl ?_
      refine Z.goto (pc := 66) (tgt := 32) dX9_goHour_66 (by decide) ?_
      exact ih (i + 1) (by omega)
set_option maxRecDepth 100000 in
set_option maxHeartbeats 400000 in
theorem c_X9_goHour {h : hp} {n hr : Nat} {k s f : zF} (hM : Mm h n hr k s f) {fd : Nat} (hfd : h.1 30 2 = nI fd) (hf9 : fd ≤ 99)  : Cn yX9_goHour cX9_goHour 4 (some .int) 5 [.ref 30] h (z_eq (some (.int (nI (pop hr - pop (hsH k s f n hr fd))))) (ghX h (hsS s hr fd) (fd - pop hr) (hsH k s f n hr fd))) := by
  have hn8 := hM.2.2.2.1.1
  have hp8 := p8 hn8
  have hlt := hM.2.2.1
  have hpl := pop_le hr
  have hM1 : Mm (z_up h 30 2 (nI (fd - pop hr))) n hr k s f := Mm_up hM (by decide) (by decide)
  refine Cn.of (by decide) (Nat.le_of_ble_eq_true rfl) ?_
  refine Z.eqL (lv' := [(0, .ref 30)]) rfl ?_
  refine Z.aload_n (pc := 0) (i := 0) dX9_goHour_0 rfl rfl ?_
  refine Z.getIv (pc := 1) dX9_goHour_1 zf_X9_89 rfl rfl hM.2.1 ?_
  refine Z.callSi (pc := 4) dX9_goHour_4 (c_X9_size hr (by omega)) zm_X9_154 zs_X9_size rfl rfl (by decide) (by decide) (Nat.le_of_ble_eq_true rfl) ?_
  refine Z.istore_n (pc := 7) (i := 1) dX9_goHour_7 rfl (by decide) rfl ?_
  refine Z.aload_n (pc := 8) (i := 0) dX9_goHour_8 rfl rfl ?_
  refine Z.aload_n (pc := 9) (i := 0) dX9_goHour_9 rfl rfl ?_
  refine Z.getIv (pc := 10) dX9_goHour_10 zf_X9_86 rfl rfl hfd ?_
  refine Z.iload_n (pc := 13) (i := 1) dX9_goHour_13 rfl rfl ?_
  refine Z.icmp_le (pc := 14) (tgt := 26) dX9_goHour_14 (by decide) (fun c14 => ?_) (fun c14 => ?_)
  · have q : fd ≤ pop hr := (nI_leI (by omega) (by omega)).mp c14
    refine Z.iconst (pc := 26) (v := (nI 0)) dX9_goHour_26 (by decide) ?_
    refine Z.top (show nI 0 = nI (fd - pop hr) from congrArg nI (by omega)) ?_
    refine Z.putI (pc := 27) dX9_goHour_27 zp_X9_86 rfl rfl rfl rfl ?_
    refine Z.iconst (pc := 30) (v := (nI 0)) dX9_goHour_30 (by decide) ?_
    refine Z.istore_n (pc := 31) (i := 2) dX9_goHour_31 rfl (by decide) rfl ?_
    by_cases q0 : fd - pop hr = 0
    · have eS : hsS s hr fd = lesR s hr n := by unfold hsS; rw [if_pos q0, les_n hn8 hlt]
      have hM2 : Mm (z_row (z_up h 30 2 (nI (fd - pop hr))) 32 (lesR s hr n)) n hr k (hsS s hr fd) f := by rw [← eS]; exact Mm_shy hM1 (Rk_hs hM.2.2.2.1 hr fd)
      have e := l_X9_goHour0 hM1 (show ((z_up h 30 2 (nI (fd - pop hr)))).1 30 2 = 0 from by show nI (fd - pop hr) = 0; rw [q0]; rfl) (u := nI (pop hr)) (K := z_eq (some (.int (nI (pop hr - pop (hsH k s f n hr fd))))) (ghX h (hsS s hr fd) (fd - pop hr) (hsH k s f n hr fd))) (fun v => l_X9_goHour1 hM2 (hsH k s f n hr fd) rfl (by rw [← eS]; exact ⟨rfl, rfl⟩)) n 0 (by omega)
      have e2 : z_row (z_up h 30 2 (nI (fd - pop hr))) 32 (lesR s hr 0) = (z_up h 30 2 (nI (fd - pop hr))) := by rw [lesR_0, ← hM1.2.2.2.2.2.1, z_row_id]
      rw [e2] at e
      exact e
    · have eS : hsS s hr fd = s := by unfold hsS; rw [if_neg q0]
      have e3 : (z_up h 30 2 (nI (fd - pop hr))) = z_row (z_up h 30 2 (nI (fd - pop hr))) 32 (hsS s hr fd) := by rw [eS, ← hM1.2.2.2.2.2.1, z_row_id]
      have hM2 : Mm (z_up h 30 2 (nI (fd - pop hr))) n hr k (hsS s hr fd) f := by rw [eS]; exact hM1
      have hK2 : (z_eq (some (.int (nI (pop hr - pop (hsH k s f n hr fd))))) (ghX h (hsS s hr fd) (fd - pop hr) (hsH k s f n hr fd))) (some (.int (nI (pop hr - pop (hsH k s f n hr fd))))) (z_up (z_up h 30 2 (nI (fd - pop hr))) 30 4 (nI (hsH k s f n hr fd))) := ⟨rfl, by show _ = z_up (z_row _ 32 _) 30 4 _; rw [← e3]⟩
      refine Z.iload_n (pc := 32) (i := 2) dX9_goHour_32 rfl rfl ?_
      refine Z.aload_n (pc := 33) (i := 0) dX9_goHour_33 rfl rfl ?_
      refine Z.getIv (pc := 34) dX9_goHour_34 zf_X9_83 rfl rfl hM1.1 ?_
      refine Z.icmp_ge (pc := 37) (tgt := 69) dX9_goHour_37 (by decide) (fun c37 => ?_) (fun c37 => ?_)
      · exact l_X9_goHour1 hM2 (hsH k s f n hr fd) rfl hK2
      · refine Z.aload_n (pc := 40) (i := 0) dX9_goHour_40 rfl rfl ?_
        refine Z.getIv (pc := 41) dX9_goHour_41 zf_X9_86 rfl rfl (show _ = nI (fd - pop hr) from rfl) ?_
        refine Z.if_ne_t (pc := 44) (tgt := 69) dX9_goHour_44 (by decide) (fun z => q0 ((nI_0' (by omega)).mp z)) ?_
        exact l_X9_goHour1 hM2 (hsH k s f n hr fd) rfl hK2
  · have q : pop hr ≤ fd := by have : ¬ fd ≤ pop hr := fun z => c14 (nI_le z (by omega)); omega
    refine Z.aload_n (pc := 17) (i := 0) dX9_goHour_17 rfl rfl ?_
    refine Z.getIv (pc := 18) dX9_goHour_18 zf_X9_86 rfl rfl hfd ?_
    refine Z.iload_n (pc := 21) (i := 1) dX9_goHour_21 rfl rfl ?_
    refine Z.isub (pc := 22) dX9_goHour_22 ?_
    refine Z.top (pk_sub q) ?_
    refine Z.goto (pc := 23) (tgt := 27) dX9_goHour_23 (by decide) ?_
    refine Z.putI (pc := 27) dX9_goHour_27 zp_X9_86 rfl rfl rfl rfl ?_
    refine Z.iconst (pc := 30) (v := (nI 0)) dX9_goHour_30 (by decide) ?_
    refine Z.istore_n (pc := 31) (i := 2) dX9_goHour_31 rfl (by decide) rfl ?_
    by_cases q0 : fd - pop hr = 0
    · have eS : hsS s hr fd = lesR s hr n := by unfold hsS; rw [if_pos q0, les_n hn8 hlt]
      have hM2 : Mm (z_row (z_up h 30 2 (nI (fd - pop hr))) 32 (lesR s hr n)) n hr k (hsS s hr fd) f := by rw [← eS]; exact Mm_shy hM1 (Rk_hs hM.2.2.2.1 hr fd)
      have e := l_X9_goHour0 hM1 (show ((z_up h 30 2 (nI (fd - pop hr)))).1 30 2 = 0 from by show nI (fd - pop hr) = 0; rw [q0]; rfl) (u := nI (pop hr)) (K := z_eq (some (.int (nI (pop hr - pop (hsH k s f n hr fd))))) (ghX h (hsS s hr fd) (fd - pop hr) (hsH k s f n hr fd))) (fun v => l_X9_goHour1 hM2 (hsH k s f n hr fd) rfl (by rw [← eS]; exact ⟨rfl, rfl⟩)) n 0 (by omega)
      have e2 : z_row (z_up h 30 2 (nI (fd - pop hr))) 32 (lesR s hr 0) = (z_up h 30 2 (nI (fd - pop hr))) := by rw [lesR_0, ← hM1.2.2.2.2.2.1, z_row_id]
      rw [e2] at e
      exact e
    · have eS : hsS s hr fd = s := by unfold hsS; rw [if_neg q0]
      have e3 : (z_up h 30 2 (nI (fd - pop hr))) = z_row (z_up h 30 2 (nI (fd - pop hr))) 32 (hsS s hr fd) := by rw [eS, ← hM1.2.2.2.2.2.1, z_row_id]
      have hM2 : Mm (z_up h 30 2 (nI (fd - pop hr))) n hr k (hsS s hr fd) f := by rw [eS]; exact hM1
      have hK2 : (z_eq (some (.int (nI (pop hr - pop (hsH k s f n hr fd))))) (ghX h (hsS s hr fd) (fd - pop hr) (hsH k s f n hr fd))) (some (.int (nI (pop hr - pop (hsH k s f n hr fd))))) (z_up (z_up h 30 2 (nI (fd - pop hr))) 30 4 (nI (hsH k s f n hr fd))) := ⟨rfl, by show _ = z_up (z_row _ 32 _) 30 4 _; rw [← e3]⟩
      refine Z.iload_n (pc := 32) (i := 2) dX9_goHour_32 rfl rfl ?_
      refine Z.aload_n (pc := 33) (i := 0) dX9_goHour_33 rfl rfl ?_
      refine Z.getIv (pc := 34) dX9_goHour_34 zf_X9_83 rfl rfl hM1.1 ?_
      refine Z.icmp_ge (pc := 37) (tgt := 69) dX9_goHour_37 (by decide) (fun c37 => ?_) (fun c37 => ?_)
      · exact l_X9_goHour1 hM2 (hsH k s f n hr fd) rfl hK2
      · refine Z.aload_n (pc := 40) (i := 0) dX9_goHour_40 rfl rfl ?_
        refine Z.getIv (pc := 41) dX9_goHour_41 zf_X9_86 rfl rfl (show _ = nI (fd - pop hr) from rfl) ?_
        refine Z.if_ne_t (pc := 44) (tgt := 69) dX9_goHour_44 (by decide) (fun z => q0 ((nI_0' (by omega)).mp z)) ?_
        exact l_X9_goHour1 hM2 (hsH k s f n hr fd) rfl hK2
set_option maxRecDepth 100000 in
set_option maxHeartbeats 400000 in
theorem l_X9_leastNow {h : hp} {n hr : Nat} {k s f : zF} (hM : Mm h n hr k s f) : ∀ (r i : Nat) , i + r = hr → Z yX9_leastNow cX9_leastNow 4 (some .int) 5 (z_eq (some (.int (nI (lsF (riB k s f n hr) hr)))) h) 4 [(0, .ref 30), (1, .int (nI (lsF (riB k s f n hr) i))), (2, .int (nI (i + 1)))] [] h := by
  have hn8 := hM.2.2.2.1.1
  have hp8 := p8 hn8
  have hlt := hM.2.2.1
  intro r
  induction r with
  | zero =>
    intro i hi
    obtain rfl : hr = i := by omega
    refine Z.iload_n (pc := 4) (i := 2) dX9_leastNow_4 rfl rfl ?_
    refine Z.aload_n (pc := 5) (i := 0) dX9_leastNow_5 rfl rfl ?_
    refine Z.getIv (pc := 6) dX9_leastNow_6 zf_X9_89 rfl rfl hM.2.1 ?_
    refine Z.icmp_gt_t (pc := 9) (tgt := 68) dX9_leastNow_9 (by decide) (nI_lt (by omega) (by omega)) ?_
    refine Z.iload_n (pc := 68) (i := 1) dX9_leastNow_68 rfl rfl ?_
    refine Z.iret (pc := 69) (ty := .int) dX9_leastNow_69 rfl rfl ?_
    exact ⟨rfl, rfl⟩
  | succ r ih =>
    intro i hi
    refine Z.iload_n (pc := 4) (i := 2) dX9_leastNow_4 rfl rfl ?_
    refine Z.aload_n (pc := 5) (i := 0) dX9_leastNow_5 rfl rfl ?_
    refine Z.getIv (pc := 6) dX9_leastNow_6 zf_X9_89 rfl rfl hM.2.1 ?_
    refine Z.icmp_gt_f (pc := 9) (tgt := 68) dX9_leastNow_9 (by decide) (nI_nlt (by omega) (by omega)) ?_
    refine Z.iload_n (pc := 12) (i := 2) dX9_leastNow_12 rfl rfl ?_
    refine Z.aload_n (pc := 13) (i := 0) dX9_leastNow_13 rfl rfl ?_
    refine Z.getIv (pc := 14) dX9_leastNow_14 zf_X9_89 rfl rfl hM.2.1 ?_
    refine Z.iconst (pc := 17) (v := (-1)) dX9_leastNow_17 (by decide) ?_
    refine Z.ixor (pc := 18) dX9_leastNow_18 ?_
    refine Z.iand (pc := 19) dX9_leastNow_19 ?_
    refine Z.top (nb_dif _ _) ?_
    refine Z.if_ne (pc := 20) (tgt := 42) dX9_leastNow_20 (by decide) (fun c20 => ?_) (fun c20 => ?_)
    · have q : ¬ dif (i + 1) hr = 0 := fun z => c20 (by rw [z]; rfl)
      have eS : lsF (riB k s f n hr) i = lsF (riB k s f n hr) (i + 1) := (lsF_k (by simp [riB, chB, q])).symm
      refine Z.iconst (pc := 42) (v := (0)) dX9_leastNow_42 (by decide) ?_
      refine Z.istore_n (pc := 43) (i := 3) dX9_leastNow_43 rfl (by decide) rfl ?_
      refine Z.iload_n (pc := 44) (i := 3) dX9_leastNow_44 rfl rfl ?_
      refine Z.if_eq_t (pc := 45) (tgt := 60) dX9_leastNow_45 (by decide) (by decide) ?_
      refine Z.iload_n (pc := 60) (i := 1) dX9_leastNow_60 rfl rfl ?_
      refine Z.top (congrArg nI eS) ?_
      refine Z.istore_n (pc := 61) (i := 1) dX9_leastNow_61 rfl (by decide) rfl ?_
      refine Z.iinc (pc := 62) (i := 2) (v := (nI (i + 1 + 1))) dX9_leastNow_62 rfl (by exact ii_1 (i + 1)) (by decide) rfl ?_
      refine Z.goto (pc := 65) (tgt := 4) dX9_leastNow_65 (by decide) ?_
      refine Z.drop 3 ?_
      exact ih (i + 1) (by omega)
    · have q : dif (i + 1) hr = 0 := (nI_0' (Nat.lt_of_le_of_lt (dif_le _ _) (by omega))).mp c20
      have hm2 : i + 1 < 2 ^ n := Nat.lt_of_le_of_lt (ch_le q) hlt
      refine Z.iload_n (pc := 23) (i := 1) dX9_leastNow_23 rfl rfl ?_
      refine Z.if_eq (pc := 24) (tgt := 38) dX9_leastNow_24 (by decide) (fun c24 => ?_) (fun c24 => ?_)
      · have q2 : lsF (riB k s f n hr) i = 0 := (nI_0' (Nat.lt_of_le_of_lt (lsF_le _ i) (by omega))).mp c24
        have qq : (decide (lsF (riB k s f n hr) i = 0) || decide (pop (i + 1) < pop (lsF (riB k s f n hr) i))) = true := by simp [q2]
        refine Z.iconst (pc := 38) (v := (1)) dX9_leastNow_38 (by decide) ?_
        refine Z.goto (pc := 39) (tgt := 43) dX9_leastNow_39 (by decide) ?_
        refine Z.istore_n (pc := 43) (i := 3) dX9_leastNow_43 rfl (by decide) rfl ?_
        refine Z.iload_n (pc := 44) (i := 3) dX9_leastNow_44 rfl rfl ?_
        refine Z.if_eq_f (pc := 45) (tgt := 60) dX9_leastNow_45 (by decide) (by decide) ?_
        refine Z.aload_n (pc := 48) (i := 0) dX9_leastNow_48 rfl rfl ?_
        refine Z.iload_n (pc := 49) (i := 2) dX9_leastNow_49 rfl rfl ?_
        refine Z.callVi (pc := 50) dX9_leastNow_50 (c_X9_canRise hM _ hm2) zm_X9_151 zv_X9_canRise rfl rfl rfl rfl (by decide) (by decide) (Nat.le_of_ble_eq_true rfl) ?_
        refine Z.if_eq_b (pc := 53) (tgt := 60) dX9_leastNow_53 (by decide) (fun c53 => ?_) (fun c53 => ?_)
        · have eS : lsF (riB k s f n hr) i = lsF (riB k s f n hr) (i + 1) := (lsF_k (by simp [riB, of_decide_eq_false c53])).symm
          refine Z.iload_n (pc := 60) (i := 1) dX9_leastNow_60 rfl rfl ?_
          refine Z.top (congrArg nI eS) ?_
          refine Z.istore_n (pc := 61) (i := 1) dX9_leastNow_61 rfl (by decide) rfl ?_
          refine Z.iinc (pc := 62) (i := 2) (v := (nI (i + 1 + 1))) dX9_leastNow_62 rfl (by exact ii_1 (i + 1)) (by decide) rfl ?_
          refine Z.goto (pc := 65) (tgt := 4) dX9_leastNow_65 (by decide) ?_
          refine Z.drop 3 ?_
          exact ih (i + 1) (by omega)
        · have eS : i + 1 = lsF (riB k s f n hr) (i + 1) := lsF_s (by rw [qq]; simp [riB, chB, q, of_decide_eq_true c53])
          refine Z.iload_n (pc := 56) (i := 2) dX9_leastNow_56 rfl rfl ?_
          refine Z.top (congrArg nI eS) ?_
          refine Z.goto (pc := 57) (tgt := 61) dX9_leastNow_57 (by decide) ?_
          refine Z.istore_n (pc := 61) (i := 1) dX9_leastNow_61 rfl (by decide) rfl ?_
          refine Z.iinc (pc := 62) (i := 2) (v := (nI (i + 1 + 1))) dX9_leastNow_62 rfl (by exact ii_1 (i + 1)) (by decide) rfl ?_
          refine Z.goto (pc := 65) (tgt := 4) dX9_leastNow_65 (by decide) ?_
          refine Z.drop 3 ?_
          exact ih (i + 1) (by omega)
      · have q2 : ¬ lsF (riB k s f n hr) i = 0 := fun z => c24 (by rw [z]; rfl)
        refine Z.iload_n (pc := 27) (i := 2) dX9_leastNow_27 rfl rfl ?_
        refine Z.callSi (pc := 28) dX9_leastNow_28 (c_X9_size _ (by omega)) zm_X9_154 zs_X9_size rfl rfl (by decide) (by decide) (Nat.le_of_ble_eq_true rfl) ?_
        refine Z.iload_n (pc := 31) (i := 1) dX9_leastNow_31 rfl rfl ?_
        refine Z.callSi (pc := 32) dX9_leastNow_32 (c_X9_size _ (Nat.lt_of_le_of_lt (lsF_le _ i) (by omega))) zm_X9_154 zs_X9_size rfl rfl (by decide) (by decide) (Nat.le_of_ble_eq_true rfl) ?_
        refine Z.icmp_ge (pc := 35) (tgt := 42) dX9_leastNow_35 (by decide) (fun c35 => ?_) (fun c35 => ?_)
        · have q3 : ¬ pop (i + 1) < pop (lsF (riB k s f n hr) i) := fun z => nI_ge z (Nat.lt_of_le_of_lt (pop_le _) (by decide)) c35
          have eS : lsF (riB k s f n hr) i = lsF (riB k s f n hr) (i + 1) := (lsF_k (by simp [q2, q3])).symm
          refine Z.iconst (pc := 42) (v := (0)) dX9_leastNow_42 (by decide) ?_
          refine Z.istore_n (pc := 43) (i := 3) dX9_leastNow_43 rfl (by decide) rfl ?_
          refine Z.iload_n (pc := 44) (i := 3) dX9_leastNow_44 rfl rfl ?_
          refine Z.if_eq_t (pc := 45) (tgt := 60) dX9_leastNow_45 (by decide) (by decide) ?_
          refine Z.iload_n (pc := 60) (i := 1) dX9_leastNow_60 rfl rfl ?_
          refine Z.top (congrArg nI eS) ?_
          refine Z.istore_n (pc := 61) (i := 1) dX9_leastNow_61 rfl (by decide) rfl ?_
          refine Z.iinc (pc := 62) (i := 2) (v := (nI (i + 1 + 1))) dX9_leastNow_62 rfl (by exact ii_1 (i + 1)) (by decide) rfl ?_
          refine Z.goto (pc := 65) (tgt := 4) dX9_leastNow_65 (by decide) ?_
          refine Z.drop 3 ?_
          exact ih (i + 1) (by omega)
        · have q3 : pop (i + 1) < pop (lsF (riB k s f n hr) i) := Nat.not_le.mp (fun z => c35 (nI_le z (Nat.lt_of_le_of_lt (pop_le _) (by decide))))
          have qq : (decide (lsF (riB k s f n hr) i = 0) || decide (pop (i + 1) < pop (lsF (riB k s f n hr) i))) = true := by simp [q3]
          refine Z.iconst (pc := 38) (v := (1)) dX9_leastNow_38 (by decide) ?_
          refine Z.goto (pc := 39) (tgt := 43) dX9_leastNow_39 (by decide) ?_
          refine Z.istore_n (pc := 43) (i := 3) dX9_leastNow_43 rfl (by decide) rfl ?_
          refine Z.iload_n (pc := 44) (i := 3) dX9_leastNow_44 rfl rfl ?_
          refine Z.if_eq_f (pc := 45) (tgt := 60) dX9_leastNow_45 (by decide) (by decide) ?_
          refine Z.aload_n (pc := 48) (i := 0) dX9_leastNow_48 rfl rfl ?_
          refine Z.iload_n (pc := 49) (i := 2) dX9_leastNow_49 rfl rfl ?_
          refine Z.callVi (pc := 50) dX9_leastNow_50 (c_X9_canRise hM _ hm2) zm_X9_151 zv_X9_canRise rfl rfl rfl rfl (by decide) (by decide) (Nat.le_of_ble_eq_true rfl) ?_
          refine Z.if_eq_b (pc := 53) (tgt := 60) dX9_leastNow_53 (by decide) (fun c53 => ?_) (fun c53 => ?_)
          · have eS : lsF (riB k s f n hr) i = lsF (riB k s f n hr) (i + 1) := (lsF_k (by simp [riB, of_decide_eq_false c53])).symm
            refine Z.iload_n (pc := 60) (i := 1) dX9_leastNow_60 rfl rfl ?_
            refine Z.top (congrArg nI eS) ?_
            refine Z.istore_n (pc := 61) (i := 1) dX9_leastNow_61 rfl (by decide) rfl ?_
            refine Z.iinc (pc := 62) (i := 2) (v := (nI (i + 1 + 1))) dX9_leastNow_62 rfl (by exact ii_1 (i + 1)) (by decide) rfl ?_
            refine Z.goto (pc := 65) (tgt := 4) dX9_leastNow_65 (by decide) ?_
            refine Z.drop 3 ?_
            exact ih (i + 1) (by omega)
          · have eS : i + 1 = lsF (riB k s f n hr) (i + 1) := lsF_s (by rw [qq]; simp [riB, chB, q, of_decide_eq_true c53])
            refine Z.iload_n (pc := 56) (i := 2) dX9_leastNow_56 rfl rfl ?_
            refine Z.top (congrArg nI eS) ?_
            refine Z.goto (pc := 57) (tgt := 61) dX9_leastNow_57 (by decide) ?_
            refine Z.istore_n (pc := 61) (i := 1) dX9_leastNow_61 rfl (by decide) rfl ?_
            refine Z.iinc (pc := 62) (i := 2) (v := (nI (i + 1 + 1))) dX9_leastNow_62 rfl (by exact ii_1 (i + 1)) (by decide) rfl ?_
            refine Z.goto (pc := 65) (tgt := 4) dX9_leastNow_65 (by decide) ?_
            refine Z.drop 3 ?_
            exact ih (i + 1) (by omega)
set_option maxRecDepth 100000 in
set_option maxHeartbeats 400000 in
theorem c_X9_leastNow {h : hp} {n hr : Nat} {k s f : zF} (hM : Mm h n hr k s f)  : Cn yX9_leastNow cX9_leastNow 4 (some .int) 5 [.ref 30] h (z_eq (some (.int (nI (lsF (riB k s f n hr) hr)))) h) := by
  refine Cn.of (by decide) (Nat.le_of_ble_eq_true rfl) ?_
  refine Z.eqL (lv' := [(0, .ref 30)]) rfl ?_
  refine Z.iconst (pc := 0) (v := (nI 0)) dX9_leastNow_0 (by decide) ?_
  refine Z.istore_n (pc := 1) (i := 1) dX9_leastNow_1 rfl (by decide) rfl ?_
  refine Z.iconst (pc := 2) (v := (nI 1)) dX9_leastNow_2 (by decide) ?_
  refine Z.istore_n (pc := 3) (i := 2) dX9_leastNow_3 rfl (by decide) rfl ?_
  exact l_X9_leastNow hM hr 0 (by omega)
set_option maxRecDepth 100000 in
set_option maxHeartbeats 400000 in
theorem c_X9_hired {h : hp} {n hr : Nat} {k s f : zF} (hM : Mm h n hr k s f)  : Cn yX9_hired cX9_hired 1 (some .int) 5 [.ref 30] h (z_eq (some (.int (nI (hirN k s f n hr)))) h) := by
  refine Cn.of (by decide) (Nat.le_of_ble_eq_true rfl) ?_
  refine Z.eqL (lv' := [(0, .ref 30)]) rfl ?_
  refine Z.aload_n (pc := 0) (i := 0) dX9_hired_0 rfl rfl ?_
  refine Z.getIv (pc := 1) dX9_hired_1 zf_X9_89 rfl rfl hM.2.1 ?_
  refine Z.aload_n (pc := 4) (i := 0) dX9_hired_4 rfl rfl ?_
  refine Z.aload_n (pc := 5) (i := 0) dX9_hired_5 rfl rfl ?_
  refine Z.getIv (pc := 6) dX9_hired_6 zf_X9_89 rfl rfl hM.2.1 ?_
  refine Z.callVi (pc := 9) dX9_hired_9 (c_X9_withoutStuck hM hr hM.2.2.1) zm_X9_132 zv_X9_withoutStuck rfl rfl rfl rfl (by decide) (by decide) (Nat.le_of_ble_eq_true rfl) ?_
  refine Z.iconst (pc := 12) (v := (-1)) dX9_hired_12 (by decide) ?_
  refine Z.ixor (pc := 13) dX9_hired_13 ?_
  refine Z.iand (pc := 14) dX9_hired_14 ?_
  refine Z.top (nb_dif _ _) ?_
  refine Z.iret (pc := 15) (ty := .int) dX9_hired_15 rfl rfl ?_
  exact ⟨rfl, rfl⟩
set_option maxRecDepth 100000 in
set_option maxHeartbeats 400000 in
theorem l_X9_save {h : hp} : ∀ (r i : Nat) , i + r = 8 → Z yX9_save cX9_save 2 none 0 (z_eq none (svX h (rdR (h.1 32) (h.1 38) 8))) 2 [(0, .ref 30), (1, .int (nI i))] [] (z_row h 38 (rdR (h.1 32) (h.1 38) i)) := by
  intro r
  induction r with
  | zero =>
    intro i hi
    obtain rfl : 8 = i := by omega
    refine Z.iload_n (pc := 2) (i := 1) dX9_save_2 rfl rfl ?_
    refine Z.bipush (pc := 3) (v := (nI 8)) dX9_save_3 (by decide) ?_
    refine Z.icmp_ge_t (pc := 5) (tgt := 26) dX9_save_5 (by decide) (nI_le (Nat.le_refl 8) (by decide)) ?_
    refine Z.aload_n (pc := 26) (i := 0) dX9_save_26 rfl rfl ?_
    refine Z.aload_n (pc := 27) (i := 0) dX9_save_27 rfl rfl ?_
    refine Z.getIv (pc := 28) dX9_save_28 zf_X9_89 rfl rfl (show _ = h.1 30 4 from rfl) ?_
    refine Z.putI (pc := 31) dX9_save_31 zp_X9_183 rfl rfl rfl rfl ?_
    refine Z.aload_n (pc := 34) (i := 0) dX9_save_34 rfl rfl ?_
    refine Z.aload_n (pc := 35) (i := 0) dX9_save_35 rfl rfl ?_
    refine Z.getIv (pc := 36) dX9_save_36 zf_X9_86 rfl rfl (show _ = h.1 30 2 from rfl) ?_
    refine Z.putI (pc := 39) dX9_save_39 zp_X9_186 rfl rfl rfl rfl ?_
    refine Z.vret (pc := 42) dX9_save_42 rfl ?_
    exact ⟨rfl, rfl⟩
  | succ r ih =>
    intro i hi
    refine Z.iload_n (pc := 2) (i := 1) dX9_save_2 rfl rfl ?_
    refine Z.bipush (pc := 3) (v := (nI 8)) dX9_save_3 (by decide) ?_
    refine Z.icmp_ge_f (pc := 5) (tgt := 26) dX9_save_5 (by decide) (nI_ge (by omega) (by decide)) ?_
    refine Z.aload_n (pc := 8) (i := 0) dX9_save_8 rfl rfl ?_
    refine Z.getR (pc := 9) dX9_save_9 zf_X9_32 rfl rfl ?_
    refine Z.iload_n (pc := 12) (i := 1) dX9_save_12 rfl rfl ?_
    refine Z.aload_n (pc := 13) (i := 0) dX9_save_13 rfl rfl ?_
    refine Z.getR (pc := 14) dX9_save_14 zf_X9_13 rfl rfl ?_
    refine Z.iload_n (pc := 17) (i := 1) dX9_save_17 rfl rfl ?_
    refine Z.iald (pc := 18) dX9_save_18 rfl (by omega) (by decide) ?_
    refine Z.top (show _ = h.1 32 i from rfl) ?_
    refine Z.iast (pc := 19) dX9_save_19 rfl (by omega) (by decide) ?_
    rw [z_up_row, z_row_at, z_row_row, rdR_s (h.1 32) (h.1 38) i]
    refine Z.iinc (pc := 20) (i := 1) (v := (nI (i + 1))) dX9_save_20 rfl (by exact ii_1 i) (by decide) rfl ?_
    refine Z.goto (pc := 23) (tgt := 2) dX9_save_23 (by decide) ?_
    exact ih (i + 1) (by omega)
set_option maxRecDepth 100000 in
set_option maxHeartbeats 400000 in
theorem c_X9_save {h : hp}  : Cn yX9_save cX9_save 2 none 0 [.ref 30] h (z_eq none (svX h (rdR (h.1 32) (h.1 38) 8))) := by
  refine Cn.of (by decide) (Nat.le_of_ble_eq_true rfl) ?_
  refine Z.eqL (lv' := [(0, .ref 30)]) rfl ?_
  refine Z.iconst (pc := 0) (v := (nI 0)) dX9_save_0 (by decide) ?_
  refine Z.istore_n (pc := 1) (i := 1) dX9_save_1 rfl (by decide) rfl ?_
  have e := l_X9_save (h := h) 8 0 rfl
  rw [rdR_0, z_row_id] at e
  exact e
set_option maxRecDepth 100000 in
set_option maxHeartbeats 400000 in
theorem l_X9_load {h : hp} {hr fd : Nat} (h1 : h.1 30 17 = nI hr) (h2 : h.1 30 18 = nI fd) : ∀ (r i : Nat) , i + r = 8 → Z yX9_load cX9_load 2 none 0 (z_eq none (ldX h (rdR (h.1 38) (h.1 32) 8) hr fd)) 2 [(0, .ref 30), (1, .int (nI i))] [] (z_row h 32 (rdR (h.1 38) (h.1 32) i)) := by
  intro r
  induction r with
  | zero =>
    intro i hi
    obtain rfl : 8 = i := by omega
    refine Z.iload_n (pc := 2) (i := 1) dX9_load_2 rfl rfl ?_
    refine Z.bipush (pc := 3) (v := (nI 8)) dX9_load_3 (by decide) ?_
    refine Z.icmp_ge_t (pc := 5) (tgt := 26) dX9_load_5 (by decide) (nI_le (Nat.le_refl 8) (by decide)) ?_
    refine Z.aload_n (pc := 26) (i := 0) dX9_load_26 rfl rfl ?_
    refine Z.aload_n (pc := 27) (i := 0) dX9_load_27 rfl rfl ?_
    refine Z.getIv (pc := 28) dX9_load_28 zf_X9_183 rfl rfl (show _ = nI hr from h1) ?_
    refine Z.putI (pc := 31) dX9_load_31 zp_X9_89 rfl rfl rfl rfl ?_
    refine Z.aload_n (pc := 34) (i := 0) dX9_load_34 rfl rfl ?_
    refine Z.aload_n (pc := 35) (i := 0) dX9_load_35 rfl rfl ?_
    refine Z.getIv (pc := 36) dX9_load_36 zf_X9_186 rfl rfl (show _ = nI fd from h2) ?_
    refine Z.putI (pc := 39) dX9_load_39 zp_X9_86 rfl rfl rfl rfl ?_
    refine Z.vret (pc := 42) dX9_load_42 rfl ?_
    exact ⟨rfl, rfl⟩
  | succ r ih =>
    intro i hi
    refine Z.iload_n (pc := 2) (i := 1) dX9_load_2 rfl rfl ?_
    refine Z.bipush (pc := 3) (v := (nI 8)) dX9_load_3 (by decide) ?_
    refine Z.icmp_ge_f (pc := 5) (tgt := 26) dX9_load_5 (by decide) (nI_ge (by omega) (by decide)) ?_
    refine Z.aload_n (pc := 8) (i := 0) dX9_load_8 rfl rfl ?_
    refine Z.getR (pc := 9) dX9_load_9 zf_X9_13 rfl rfl ?_
    refine Z.iload_n (pc := 12) (i := 1) dX9_load_12 rfl rfl ?_
    refine Z.aload_n (pc := 13) (i := 0) dX9_load_13 rfl rfl ?_
    refine Z.getR (pc := 14) dX9_load_14 zf_X9_32 rfl rfl ?_
    refine Z.iload_n (pc := 17) (i := 1) dX9_load_17 rfl rfl ?_
    refine Z.iald (pc := 18) dX9_load_18 rfl (by omega) (by decide) ?_
    refine Z.top (show _ = h.1 38 i from rfl) ?_
    refine Z.iast (pc := 19) dX9_load_19 rfl (by omega) (by decide) ?_
    rw [z_up_row, z_row_at, z_row_row, rdR_s (h.1 38) (h.1 32) i]
    refine Z.iinc (pc := 20) (i := 1) (v := (nI (i + 1))) dX9_load_20 rfl (by exact ii_1 i) (by decide) rfl ?_
    refine Z.goto (pc := 23) (tgt := 2) dX9_load_23 (by decide) ?_
    exact ih (i + 1) (by omega)
set_option maxRecDepth 100000 in
set_option maxHeartbeats 400000 in
theorem c_X9_load {h : hp} {hr fd : Nat} (h1 : h.1 30 17 = nI hr) (h2 : h.1 30 18 = nI fd)  : Cn yX9_load cX9_load 2 none 0 [.ref 30] h (z_eq none (ldX h (rdR (h.1 38) (h.1 32) 8) hr fd)) := by
  refine Cn.of (by decide) (Nat.le_of_ble_eq_true rfl) ?_
  refine Z.eqL (lv' := [(0, .ref 30)]) rfl ?_
  refine Z.iconst (pc := 0) (v := (nI 0)) dX9_load_0 (by decide) ?_
  refine Z.istore_n (pc := 1) (i := 1) dX9_load_1 rfl (by decide) rfl ?_
  have e := l_X9_load h1 h2 8 0 rfl
  rw [rdR_0, z_row_id] at e
  exact e
set_option maxRecDepth 100000 in
set_option maxHeartbeats 400000 in
theorem l_X9_shyAll {h : hp} {n hr : Nat} {k s f : zF} (hM : Mm h n hr k s f) : ∀ (r i : Nat) (a : Int32), i + r = n → a = sumI (fun i => cond (hr.testBit i) (s i) 0) i → Z yX9_shyAll cX9_shyAll 3 (some .int) 1 (z_eq (some (.int (shyI s hr))) h) 4 [(0, .ref 30), (1, .int a), (2, .int (nI i))] [] h := by
  have hn8 := hM.2.2.2.1.1
  have hp8 := p8 hn8
  have hlt := hM.2.2.1
  intro r
  induction r with
  | zero =>
    intro i a hi ha
    obtain rfl : n = i := by omega
    refine Z.iload_n (pc := 4) (i := 2) dX9_shyAll_4 rfl rfl ?_
    refine Z.aload_n (pc := 5) (i := 0) dX9_shyAll_5 rfl rfl ?_
    refine Z.getIv (pc := 6) dX9_shyAll_6 zf_X9_83 rfl rfl hM.1 ?_
    refine Z.icmp_ge_t (pc := 9) (tgt := 42) dX9_shyAll_9 (by decide) (nI_le (Nat.le_refl _) (by omega)) ?_
    refine Z.iload_n (pc := 42) (i := 1) dX9_shyAll_42 rfl rfl ?_
    refine Z.iret (pc := 43) (ty := .int) dX9_shyAll_43 rfl rfl ?_
    exact ⟨by rw [ha]; exact congrArg (fun x => some (Value.int x)) (sum_lim hn8 (fun i hi => by simp only [bit_lt hlt hi, cond_false])), rfl⟩
  | succ r ih =>
    intro i a hi ha
    refine Z.iload_n (pc := 4) (i := 2) dX9_shyAll_4 rfl rfl ?_
    refine Z.aload_n (pc := 5) (i := 0) dX9_shyAll_5 rfl rfl ?_
    refine Z.getIv (pc := 6) dX9_shyAll_6 zf_X9_83 rfl rfl hM.1 ?_
    refine Z.icmp_ge_f (pc := 9) (tgt := 42) dX9_shyAll_9 (by decide) (nI_ge (by omega) (by omega)) ?_
    refine Z.iload_n (pc := 12) (i := 1) dX9_shyAll_12 rfl rfl ?_
    refine Z.aload_n (pc := 13) (i := 0) dX9_shyAll_13 rfl rfl ?_
    refine Z.getIv (pc := 14) dX9_shyAll_14 zf_X9_89 rfl rfl hM.2.1 ?_
    refine Z.iload_n (pc := 17) (i := 2) dX9_shyAll_17 rfl rfl ?_
    refine Z.callSi (pc := 18) dX9_shyAll_18 (c_X9_isIn hr i (by omega) (l31 hlt hn8)) zm_X9_105 zs_X9_isIn rfl rfl (by decide) (by decide) (Nat.le_of_ble_eq_true rfl) ?_
    refine Z.if_eq_b (pc := 21) (tgt := 33) dX9_shyAll_21 (by decide) (fun c21 => ?_) (fun c21 => ?_)
    · have e : (fun i => cond (hr.testBit i) (s i) 0) i = 0 := by simp only [c21, cond_false]
      refine Z.iconst (pc := 33) (v := (0)) dX9_shyAll_33 (by decide) ?_
      refine Z.iadd (pc := 34) dX9_shyAll_34 ?_
      refine Z.istore_n (pc := 35) (i := 1) dX9_shyAll_35 rfl (by decide) rfl ?_
      refine Z.iinc (pc := 36) (i := 2) (v := (nI (i + 1))) dX9_shyAll_36 rfl (by exact ii_1 i) (by decide) rfl ?_
      refine Z.goto (pc := 39) (tgt := 4) dX9_shyAll_39 (by decide) ?_
      exact ih (i + 1) _ (by omega) (sumI_t ha e)
    · have e : (fun i => cond (hr.testBit i) (s i) 0) i = s i := by simp only [c21, cond_true]
      refine Z.aload_n (pc := 24) (i := 0) dX9_shyAll_24 rfl rfl ?_
      refine Z.getR (pc := 25) dX9_shyAll_25 zf_X9_13 rfl rfl ?_
      refine Z.iload_n (pc := 28) (i := 2) dX9_shyAll_28 rfl rfl ?_
      refine Z.iald (pc := 29) dX9_shyAll_29 rfl (by omega) (by decide) ?_
      refine Z.top (show _ = s i from congrFun hM.2.2.2.2.2.1 i) ?_
      refine Z.goto (pc := 30) (tgt := 34) dX9_shyAll_30 (by decide) ?_
      refine Z.iadd (pc := 34) dX9_shyAll_34 ?_
      refine Z.istore_n (pc := 35) (i := 1) dX9_shyAll_35 rfl (by decide) rfl ?_
      refine Z.iinc (pc := 36) (i := 2) (v := (nI (i + 1))) dX9_shyAll_36 rfl (by exact ii_1 i) (by decide) rfl ?_
      refine Z.goto (pc := 39) (tgt := 4) dX9_shyAll_39 (by decide) ?_
      exact ih (i + 1) _ (by omega) (sumI_t ha e)
set_option maxRecDepth 100000 in
set_option maxHeartbeats 400000 in
theorem c_X9_shyAll {h : hp} {n hr : Nat} {k s f : zF} (hM : Mm h n hr k s f)  : Cn yX9_shyAll cX9_shyAll 3 (some .int) 1 [.ref 30] h (z_eq (some (.int (shyI s hr))) h) := by
  refine Cn.of (by decide) (Nat.le_of_ble_eq_true rfl) ?_
  refine Z.eqL (lv' := [(0, .ref 30)]) rfl ?_
  refine Z.iconst (pc := 0) (v := (0)) dX9_shyAll_0 (by decide) ?_
  refine Z.istore_n (pc := 1) (i := 1) dX9_shyAll_1 rfl (by decide) rfl ?_
  refine Z.iconst (pc := 2) (v := (nI 0)) dX9_shyAll_2 (by decide) ?_
  refine Z.istore_n (pc := 3) (i := 2) dX9_shyAll_3 rfl (by decide) rfl ?_
  exact l_X9_shyAll hM n 0 0 (by omega) rfl
set_option maxRecDepth 100000 in
set_option maxHeartbeats 400000 in
theorem l_X9_alone {h : hp} {n hr : Nat} {k s f : zF} (hM : Mm h n hr k s f) : ∀ (r i : Nat) , i + r = n → Z yX9_alone cX9_alone 3 (some .int) 4 (z_eq (some (.int (nI (pop (alo k s f n hr))))) h) 4 [(0, .ref 30), (1, .int (nI (cntB (alB k s f n hr) i))), (2, .int (nI i))] [] h := by
  have hn8 := hM.2.2.2.1.1
  have hp8 := p8 hn8
  have hlt := hM.2.2.1
  intro r
  induction r with
  | zero =>
    intro i hi
    obtain rfl : n = i := by omega
    refine Z.iload_n (pc := 4) (i := 2) dX9_alone_4 rfl rfl ?_
    refine Z.aload_n (pc := 5) (i := 0) dX9_alone_5 rfl rfl ?_
    refine Z.getIv (pc := 6) dX9_alone_6 zf_X9_83 rfl rfl hM.1 ?_
    refine Z.icmp_ge_t (pc := 9) (tgt := 48) dX9_alone_9 (by decide) (nI_le (Nat.le_refl _) (by omega)) ?_
    refine Z.iload_n (pc := 48) (i := 1) dX9_alone_48 rfl rfl ?_
    refine Z.iret (pc := 49) (ty := .int) dX9_alone_49 rfl rfl ?_
    exact ⟨by rw [alo_cnt hn8 hlt], rfl⟩
  | succ r ih =>
    intro i hi
    refine Z.iload_n (pc := 4) (i := 2) dX9_alone_4 rfl rfl ?_
    refine Z.aload_n (pc := 5) (i := 0) dX9_alone_5 rfl rfl ?_
    refine Z.getIv (pc := 6) dX9_alone_6 zf_X9_83 rfl rfl hM.1 ?_
    refine Z.icmp_ge_f (pc := 9) (tgt := 48) dX9_alone_9 (by decide) (nI_ge (by omega) (by omega)) ?_
    refine Z.iload_n (pc := 12) (i := 1) dX9_alone_12 rfl rfl ?_
    refine Z.aload_n (pc := 13) (i := 0) dX9_alone_13 rfl rfl ?_
    refine Z.getIv (pc := 14) dX9_alone_14 zf_X9_89 rfl rfl hM.2.1 ?_
    refine Z.iload_n (pc := 17) (i := 2) dX9_alone_17 rfl rfl ?_
    refine Z.callSi (pc := 18) dX9_alone_18 (c_X9_isIn hr i (by omega) (l31 hlt hn8)) zm_X9_105 zs_X9_isIn rfl rfl (by decide) (by decide) (Nat.le_of_ble_eq_true rfl) ?_
    refine Z.if_eq_b (pc := 21) (tgt := 39) dX9_alone_21 (by decide) (fun c21 => ?_) (fun c21 => ?_)
    · have e : alB k s f n hr i = false := by simp [alB, c21]
      refine Z.iconst (pc := 39) (v := (0)) dX9_alone_39 (by decide) ?_
      refine Z.top (x' := zb (alB k s f n hr i)) (by rw [e]; rfl) ?_
      refine Z.iadd (pc := 40) dX9_alone_40 ?_
      refine Z.top ((zb_add _ _).trans (show _ = nI (cntB (alB k s f n hr) (i + 1)) from rfl)) ?_
      refine Z.istore_n (pc := 41) (i := 1) dX9_alone_41 rfl (by decide) rfl ?_
      refine Z.iinc (pc := 42) (i := 2) (v := (nI (i + 1))) dX9_alone_42 rfl (by exact ii_1 i) (by decide) rfl ?_
      refine Z.goto (pc := 45) (tgt := 4) dX9_alone_45 (by decide) ?_
      exact ih (i + 1) (by omega)
    · have ec := al_cg hM.2.2.2.1 hlt c21
      refine Z.aload_n (pc := 24) (i := 0) dX9_alone_24 rfl rfl ?_
      refine Z.iload_n (pc := 25) (i := 2) dX9_alone_25 rfl rfl ?_
      refine Z.iconst (pc := 26) (v := (nI 1)) dX9_alone_26 (by decide) ?_
      refine Z.iload_n (pc := 27) (i := 2) dX9_alone_27 rfl rfl ?_
      refine Z.ishl (pc := 28) dX9_alone_28 ?_
      refine Z.top (nb_shl (by omega)) ?_
      refine Z.callVi (pc := 29) dX9_alone_29 (c_X9_canGo hM (2 ^ i) (Nat.pow_lt_pow_right (by decide) (by omega)) i (by omega)) zm_X9_129 zv_X9_canGo rfl rfl rfl rfl (by decide) (by decide) (Nat.le_of_ble_eq_true rfl) ?_
      refine Z.if_eq_b (pc := 32) (tgt := 39) dX9_alone_32 (by decide) (fun c32 => ?_) (fun c32 => ?_)
      · have e : alB k s f n hr i = false := by unfold alB; rw [← ec, c32]; simp
        refine Z.iconst (pc := 39) (v := (0)) dX9_alone_39 (by decide) ?_
        refine Z.top (x' := zb (alB k s f n hr i)) (by rw [e]; rfl) ?_
        refine Z.iadd (pc := 40) dX9_alone_40 ?_
        refine Z.top ((zb_add _ _).trans (show _ = nI (cntB (alB k s f n hr) (i + 1)) from rfl)) ?_
        refine Z.istore_n (pc := 41) (i := 1) dX9_alone_41 rfl (by decide) rfl ?_
        refine Z.iinc (pc := 42) (i := 2) (v := (nI (i + 1))) dX9_alone_42 rfl (by exact ii_1 i) (by decide) rfl ?_
        refine Z.goto (pc := 45) (tgt := 4) dX9_alone_45 (by decide) ?_
        exact ih (i + 1) (by omega)
      · have e : alB k s f n hr i = true := by unfold alB; rw [c21, ← ec, c32]; rfl
        refine Z.iconst (pc := 35) (v := (1)) dX9_alone_35 (by decide) ?_
        refine Z.goto (pc := 36) (tgt := 40) dX9_alone_36 (by decide) ?_
        refine Z.top (x' := zb (alB k s f n hr i)) (by rw [e]; rfl) ?_
        refine Z.iadd (pc := 40) dX9_alone_40 ?_
        refine Z.top ((zb_add _ _).trans (show _ = nI (cntB (alB k s f n hr) (i + 1)) from rfl)) ?_
        refine Z.istore_n (pc := 41) (i := 1) dX9_alone_41 rfl (by decide) rfl ?_
        refine Z.iinc (pc := 42) (i := 2) (v := (nI (i + 1))) dX9_alone_42 rfl (by exact ii_1 i) (by decide) rfl ?_
        refine Z.goto (pc := 45) (tgt := 4) dX9_alone_45 (by decide) ?_
        exact ih (i + 1) (by omega)
set_option maxRecDepth 100000 in
set_option maxHeartbeats 400000 in
theorem c_X9_alone {h : hp} {n hr : Nat} {k s f : zF} (hM : Mm h n hr k s f)  : Cn yX9_alone cX9_alone 3 (some .int) 4 [.ref 30] h (z_eq (some (.int (nI (pop (alo k s f n hr))))) h) := by
  refine Cn.of (by decide) (Nat.le_of_ble_eq_true rfl) ?_
  refine Z.eqL (lv' := [(0, .ref 30)]) rfl ?_
  refine Z.iconst (pc := 0) (v := (nI 0)) dX9_alone_0 (by decide) ?_
  refine Z.istore_n (pc := 1) (i := 1) dX9_alone_1 rfl (by decide) rfl ?_
  refine Z.iconst (pc := 2) (v := (nI 0)) dX9_alone_2 (by decide) ?_
  refine Z.istore_n (pc := 3) (i := 2) dX9_alone_3 rfl (by decide) rfl ?_
  exact l_X9_alone hM n 0 (by omega)
