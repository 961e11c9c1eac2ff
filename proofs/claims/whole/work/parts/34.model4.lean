set_option maxRecDepth 100000 in
set_option maxHeartbeats 400000 in
theorem c_X9_wouldGo {h : hp} {n hr : Nat} {k s f : zF} (hM : Mm h n hr k s f) (g : Nat) (hg : g < n) (a : Nat) (ot : Int32)  : Cn yX9_wouldGo cX9_wouldGo 4 (some .boolean) 1 [.ref 30, .int (nI g), .int (nI a), .int ot] h (z_eq (some (.int (zb (decide (ndsI (k g) (nI a) ≤ ot))))) h) := by
  have hn8 := hM.2.2.2.1.1
  have hp8 := p8 hn8
  have hlt := hM.2.2.1
  refine Cn.of (by decide) (Nat.le_of_ble_eq_true rfl) ?_
  refine Z.eqL (lv' := [(0, .ref 30), (1, .int (nI g)), (2, .int (nI a)), (3, .int ot)]) rfl ?_
  refine Z.aload_n (pc := 0) (i := 0) dX9_wouldGo_0 rfl rfl ?_
  refine Z.getR (pc := 1) dX9_wouldGo_1 zf_X9_7 rfl rfl ?_
  refine Z.iload_n (pc := 4) (i := 1) dX9_wouldGo_4 rfl rfl ?_
  refine Z.iald (pc := 5) dX9_wouldGo_5 rfl (by omega) (by decide) ?_
  refine Z.top (show _ = k g from congrFun hM.2.2.2.2.1 g) ?_
  refine Z.iload_n (pc := 6) (i := 2) dX9_wouldGo_6 rfl rfl ?_
  refine Z.callSi (pc := 7) dX9_wouldGo_7 (c_X9_needsBy _ _ (hM.2.2.2.1.2.1 g hg)) zm_X9_101 zs_X9_needsBy rfl rfl (by decide) (by decide) (Nat.le_of_ble_eq_true rfl) ?_
  refine Z.iload_n (pc := 10) (i := 3) dX9_wouldGo_10 rfl rfl ?_
  refine Z.icmp_gt (pc := 11) (tgt := 18) dX9_wouldGo_11 (by decide) (fun c11 => ?_) (fun c11 => ?_)
  · refine Z.iconst (pc := 18) (v := (0)) dX9_wouldGo_18 (by decide) ?_
    refine Z.iret (pc := 19) (ty := .boolean) dX9_wouldGo_19 rfl (by first | rfl | exact zb_nar _) ?_
    first | exact ⟨zb_f rfl (decide_eq_false (lt_nle c11)), rfl⟩ | exact ⟨zb_t rfl (decide_eq_true (nlt c11)), rfl⟩
  · refine Z.iconst (pc := 14) (v := (1)) dX9_wouldGo_14 (by decide) ?_
    refine Z.goto (pc := 15) (tgt := 19) dX9_wouldGo_15 (by decide) ?_
    refine Z.iret (pc := 19) (ty := .boolean) dX9_wouldGo_19 rfl (by first | rfl | exact zb_nar _) ?_
    first | exact ⟨zb_f rfl (decide_eq_false (lt_nle c11)), rfl⟩ | exact ⟨zb_t rfl (decide_eq_true (nlt c11)), rfl⟩
set_option maxRecDepth 100000 in
set_option maxHeartbeats 400000 in
theorem l_X9_shyIn {h : hp} {n hr : Nat} {k s f : zF} (hM : Mm h n hr k s f) (g : Nat) (hg : g < n) {sz : Nat} {sg so se : zF} (hE : Me h sz sg so se) (sE : okE sz sg so se) {u : Int32} {K : Option Value → hp → Prop} (a : Nat) (ha : a < 10) (hk : Z yX9_shynessOf cX9_shynessOf 6 (some .int) 2 K 86 [(0, .ref 30), (1, .int (nI g)), (2, .int u), (3, .int (nI a)), (4, .int (zb ((shF sg so se (nI g) (k g) sz).testBit a)))] [] h) : ∀ (r i : Nat) , i + r = sz → Z yX9_shynessOf cX9_shynessOf 6 (some .int) 2 (K) 16 [(0, .ref 30), (1, .int (nI g)), (2, .int u), (3, .int (nI a)), (4, .int (zb ((shF sg so se (nI g) (k g) i).testBit a))), (5, .int (nI i))] [] h := by
  have hn8 := hM.2.2.2.1.1
  have hp8 := p8 hn8
  have hlt := hM.2.2.1
  have hz6 := sE.1
  intro r
  induction r with
  | zero =>
    intro i hi
    obtain rfl : sz = i := by omega
    refine Z.iload (pc := 16) (i := 5) dX9_shynessOf_16 rfl ?_
    refine Z.aload_n (pc := 18) (i := 0) dX9_shynessOf_18 rfl rfl ?_
    refine Z.getIv (pc := 19) dX9_shynessOf_19 zf_X9_98 rfl rfl hE.1 ?_
    refine Z.icmp_ge_t (pc := 22) (tgt := 86) dX9_shynessOf_22 (by decide) (nI_le (Nat.le_refl _) (by omega)) ?_
    refine Z.drop 5 ?_
    exact hk
  | succ r ih =>
    intro i hi
    refine Z.iload (pc := 16) (i := 5) dX9_shynessOf_16 rfl ?_
    refine Z.aload_n (pc := 18) (i := 0) dX9_shynessOf_18 rfl rfl ?_
    refine Z.getIv (pc := 19) dX9_shynessOf_19 zf_X9_98 rfl rfl hE.1 ?_
    refine Z.icmp_ge_f (pc := 22) (tgt := 86) dX9_shynessOf_22 (by decide) (nI_ge (by omega) (by omega)) ?_
    refine Z.iload (pc := 25) (i := 4) dX9_shynessOf_25 rfl ?_
    refine Z.if_eq_b (pc := 27) (tgt := 77) dX9_shynessOf_27 (by decide) (fun c27 => ?_) (fun c27 => ?_)
    · have e : ((shF sg so se (nI g) (k g) (i + 1)).testBit a) = false := sh_z c27
      refine Z.iconst (pc := 77) (v := (0)) dX9_shynessOf_77 (by decide) ?_
      refine Z.top (show (0 : Int32) = zb ((shF sg so se (nI g) (k g) (i + 1)).testBit a) from by rw [e]; rfl) ?_
      refine Z.istore (pc := 78) (i := 4) dX9_shynessOf_78 (by decide) rfl ?_
      refine Z.iinc (pc := 80) (i := 5) (v := (nI (i + 1))) dX9_shynessOf_80 rfl (by exact ii_1 i) (by decide) rfl ?_
      refine Z.goto (pc := 83) (tgt := 16) dX9_shynessOf_83 (by decide) ?_
      exact ih (i + 1) (by omega)
    · refine Z.aload_n (pc := 30) (i := 0) dX9_shynessOf_30 rfl rfl ?_
      refine Z.getR (pc := 31) dX9_shynessOf_31 zf_X9_19 rfl rfl ?_
      refine Z.iload (pc := 34) (i := 5) dX9_shynessOf_34 rfl ?_
      refine Z.iald (pc := 36) dX9_shynessOf_36 rfl (by omega) (by decide) ?_
      refine Z.top (show _ = sg i from congrFun hE.2.1 i) ?_
      refine Z.iload_n (pc := 37) (i := 1) dX9_shynessOf_37 rfl rfl ?_
      refine Z.icmp_ne (pc := 38) (tgt := 73) dX9_shynessOf_38 (by decide) (fun c38 => ?_) (fun c38 => ?_)
      · have e : ((shF sg so se (nI g) (k g) (i + 1)).testBit a) = true := (sh_n c38).trans c27
        refine Z.iconst (pc := 73) (v := (1)) dX9_shynessOf_73 (by decide) ?_
        refine Z.top (show (1 : Int32) = zb ((shF sg so se (nI g) (k g) (i + 1)).testBit a) from by rw [e]; rfl) ?_
        refine Z.goto (pc := 74) (tgt := 78) dX9_shynessOf_74 (by decide) ?_
        refine Z.istore (pc := 78) (i := 4) dX9_shynessOf_78 (by decide) rfl ?_
        refine Z.iinc (pc := 80) (i := 5) (v := (nI (i + 1))) dX9_shynessOf_80 rfl (by exact ii_1 i) (by decide) rfl ?_
        refine Z.goto (pc := 83) (tgt := 16) dX9_shynessOf_83 (by decide) ?_
        exact ih (i + 1) (by omega)
      · refine Z.aload_n (pc := 41) (i := 0) dX9_shynessOf_41 rfl rfl ?_
        refine Z.iload_n (pc := 42) (i := 1) dX9_shynessOf_42 rfl rfl ?_
        refine Z.iload_n (pc := 43) (i := 3) dX9_shynessOf_43 rfl rfl ?_
        refine Z.aload_n (pc := 44) (i := 0) dX9_shynessOf_44 rfl rfl ?_
        refine Z.getR (pc := 45) dX9_shynessOf_45 zf_X9_22 rfl rfl ?_
        refine Z.iload (pc := 48) (i := 5) dX9_shynessOf_48 rfl ?_
        refine Z.iald (pc := 50) dX9_shynessOf_50 rfl (by omega) (by decide) ?_
        refine Z.top (show _ = so i from congrFun hE.2.2.1 i) ?_
        refine Z.callVi (pc := 51) dX9_shynessOf_51 (c_X9_wouldGo hM g hg a _) zm_X9_205 zv_X9_wouldGo rfl rfl rfl rfl (by decide) (by decide) (Nat.le_of_ble_eq_true rfl) ?_
        refine Z.aload_n (pc := 54) (i := 0) dX9_shynessOf_54 rfl rfl ?_
        refine Z.getR (pc := 55) dX9_shynessOf_55 zf_X9_25 rfl rfl ?_
        refine Z.iload (pc := 58) (i := 5) dX9_shynessOf_58 rfl ?_
        refine Z.iald (pc := 60) dX9_shynessOf_60 rfl (by omega) (by decide) ?_
        refine Z.top (show _ = se i from congrFun hE.2.2.2 i) ?_
        refine Z.iconst (pc := 61) (v := (1)) dX9_shynessOf_61 (by decide) ?_
        refine Z.icmp_ne (pc := 62) (tgt := 69) dX9_shynessOf_62 (by decide) (fun c62 => ?_) (fun c62 => ?_)
        · refine Z.iconst (pc := 69) (v := (0)) dX9_shynessOf_69 (by decide) ?_
          refine Z.top (show (0 : Int32) = zb (decide (se i = 1)) from by rw [decide_eq_false c62]; rfl) ?_
          refine Z.icmp_ne (pc := 70) (tgt := 77) dX9_shynessOf_70 (by decide) (fun c70 => ?_) (fun c70 => ?_)
          · have e : ((shF sg so se (nI g) (k g) (i + 1)).testBit a) = false := by rw [sh_s ha c38 (sE.2.2.2.2 i), c27, Bool.true_and]; exact beq_eq_false_iff_ne.mpr (fun z => c70 (by rw [z]))
            refine Z.iconst (pc := 77) (v := (0)) dX9_shynessOf_77 (by decide) ?_
            refine Z.top (show (0 : Int32) = zb ((shF sg so se (nI g) (k g) (i + 1)).testBit a) from by rw [e]; rfl) ?_
            refine Z.istore (pc := 78) (i := 4) dX9_shynessOf_78 (by decide) rfl ?_
            refine Z.iinc (pc := 80) (i := 5) (v := (nI (i + 1))) dX9_shynessOf_80 rfl (by exact ii_1 i) (by decide) rfl ?_
            refine Z.goto (pc := 83) (tgt := 16) dX9_shynessOf_83 (by decide) ?_
            exact ih (i + 1) (by omega)
          · have e : ((shF sg so se (nI g) (k g) (i + 1)).testBit a) = true := by rw [sh_s ha c38 (sE.2.2.2.2 i), c27, Bool.true_and]; exact beq_iff_eq.mpr (zb_inj.mp c70)
            refine Z.iconst (pc := 73) (v := (1)) dX9_shynessOf_73 (by decide) ?_
            refine Z.top (show (1 : Int32) = zb ((shF sg so se (nI g) (k g) (i + 1)).testBit a) from by rw [e]; rfl) ?_
            refine Z.goto (pc := 74) (tgt := 78) dX9_shynessOf_74 (by decide) ?_
            refine Z.istore (pc := 78) (i := 4) dX9_shynessOf_78 (by decide) rfl ?_
            refine Z.iinc (pc := 80) (i := 5) (v := (nI (i + 1))) dX9_shynessOf_80 rfl (by exact ii_1 i) (by decide) rfl ?_
            refine Z.goto (pc := 83) (tgt := 16) dX9_shynessOf_83 (by decide) ?_
            exact ih (i + 1) (by omega)
        · refine Z.iconst (pc := 65) (v := (1)) dX9_shynessOf_65 (by decide) ?_
          refine Z.top (show (1 : Int32) = zb (decide (se i = 1)) from by rw [decide_eq_true c62]; rfl) ?_
          refine Z.goto (pc := 66) (tgt := 70) dX9_shynessOf_66 (by decide) ?_
          refine Z.icmp_ne (pc := 70) (tgt := 77) dX9_shynessOf_70 (by decide) (fun c70 => ?_) (fun c70 => ?_)
          · have e : ((shF sg so se (nI g) (k g) (i + 1)).testBit a) = false := by rw [sh_s ha c38 (sE.2.2.2.2 i), c27, Bool.true_and]; exact beq_eq_false_iff_ne.mpr (fun z => c70 (by rw [z]))
            refine Z.iconst (pc := 77) (v := (0)) dX9_shynessOf_77 (by decide) ?_
            refine Z.top (show (0 : Int32) = zb ((shF sg so se (nI g) (k g) (i + 1)).testBit a) from by rw [e]; rfl) ?_
            refine Z.istore (pc := 78) (i := 4) dX9_shynessOf_78 (by decide) rfl ?_
            refine Z.iinc (pc := 80) (i := 5) (v := (nI (i + 1))) dX9_shynessOf_80 rfl (by exact ii_1 i) (by decide) rfl ?_
            refine Z.goto (pc := 83) (tgt := 16) dX9_shynessOf_83 (by decide) ?_
            exact ih (i + 1) (by omega)
          · have e : ((shF sg so se (nI g) (k g) (i + 1)).testBit a) = true := by rw [sh_s ha c38 (sE.2.2.2.2 i), c27, Bool.true_and]; exact beq_iff_eq.mpr (zb_inj.mp c70)
            refine Z.iconst (pc := 73) (v := (1)) dX9_shynessOf_73 (by decide) ?_
            refine Z.top (show (1 : Int32) = zb ((shF sg so se (nI g) (k g) (i + 1)).testBit a) from by rw [e]; rfl) ?_
            refine Z.goto (pc := 74) (tgt := 78) dX9_shynessOf_74 (by decide) ?_
            refine Z.istore (pc := 78) (i := 4) dX9_shynessOf_78 (by decide) rfl ?_
            refine Z.iinc (pc := 80) (i := 5) (v := (nI (i + 1))) dX9_shynessOf_80 rfl (by exact ii_1 i) (by decide) rfl ?_
            refine Z.goto (pc := 83) (tgt := 16) dX9_shynessOf_83 (by decide) ?_
            exact ih (i + 1) (by omega)
set_option maxRecDepth 100000 in
set_option maxHeartbeats 400000 in
theorem l_X9_shynessOf {h : hp} {n hr : Nat} {k s f : zF} (hM : Mm h n hr k s f) (g : Nat) (hg : g < n) {sz : Nat} {sg so se : zF} (hE : Me h sz sg so se) (sE : okE sz sg so se) : ∀ (r i : Nat) , i + r = 10 → Z yX9_shynessOf cX9_shynessOf 6 (some .int) 2 (z_eq (some (.int (nI (shF sg so se (nI g) (k g) sz)))) h) 4 [(0, .ref 30), (1, .int (nI g)), (2, .int (nI (orb (shF sg so se (nI g) (k g) sz).testBit i))), (3, .int (nI i))] [] h := by
  have hn8 := hM.2.2.2.1.1
  have hp8 := p8 hn8
  have hlt := hM.2.2.1
  intro r
  induction r with
  | zero =>
    intro i hi
    obtain rfl : 10 = i := by omega
    refine Z.iload_n (pc := 4) (i := 3) dX9_shynessOf_4 rfl rfl ?_
    refine Z.bipush (pc := 5) (v := (nI 9)) dX9_shynessOf_5 (by decide) ?_
    refine Z.icmp_gt_t (pc := 7) (tgt := 107) dX9_shynessOf_7 (by decide) (nI_lt (by decide) (by decide)) ?_
    refine Z.iload_n (pc := 107) (i := 2) dX9_shynessOf_107 rfl rfl ?_
    refine Z.iret (pc := 108) (ty := .int) dX9_shynessOf_108 rfl rfl ?_
    exact ⟨by rw [sh_orb], rfl⟩
  | succ r ih =>
    intro i hi
    refine Z.iload_n (pc := 4) (i := 3) dX9_shynessOf_4 rfl rfl ?_
    refine Z.bipush (pc := 5) (v := (nI 9)) dX9_shynessOf_5 (by decide) ?_
    refine Z.icmp_gt_f (pc := 7) (tgt := 107) dX9_shynessOf_7 (by decide) (nI_nlt (by omega) (by decide)) ?_
    refine Z.iconst (pc := 10) (v := (1)) dX9_shynessOf_10 (by decide) ?_
    refine Z.top (show (1 : Int32) = zb ((shF sg so se (nI g) (k g) 0).testBit i) from by rw [sh_0 (by omega)]; rfl) ?_
    refine Z.istore (pc := 11) (i := 4) dX9_shynessOf_11 (by decide) rfl ?_
    refine Z.iconst (pc := 13) (v := (nI 0)) dX9_shynessOf_13 (by decide) ?_
    refine Z.istore (pc := 14) (i := 5) dX9_shynessOf_14 (by decide) rfl ?_
    refine l_X9_shyIn hM g hg hE sE i (by omega) ?_ sz 0 (by omega)
    refine Z.iload_n (pc := 86) (i := 2) dX9_shynessOf_86 rfl rfl ?_
    refine Z.iload (pc := 87) (i := 4) dX9_shynessOf_87 rfl ?_
    refine Z.if_eq_b (pc := 89) (tgt := 98) dX9_shynessOf_89 (by decide) (fun c89 => ?_) (fun c89 => ?_)
    · have eS : nI (orb (shF sg so se (nI g) (k g) sz).testBit i) ||| nI 0 = nI (orb (shF sg so se (nI g) (k g) sz).testBit (i + 1)) := by rw [nb_or, Nat.or_zero, ← orb_f (c := (shF sg so se (nI g) (k g) sz).testBit) rfl c89]
      refine Z.iconst (pc := 98) (v := (nI 0)) dX9_shynessOf_98 (by decide) ?_
      refine Z.ior (pc := 99) dX9_shynessOf_99 ?_
      refine Z.top (eS) ?_
      refine Z.istore_n (pc := 100) (i := 2) dX9_shynessOf_100 rfl (by decide) rfl ?_
      refine Z.iinc (pc := 101) (i := 3) (v := (nI (i + 1))) dX9_shynessOf_101 rfl (by exact ii_1 i) (by decide) rfl ?_
      refine Z.goto (pc := 104) (tgt := 4) dX9_shynessOf_104 (by decide) ?_
      refine Z.drop 4 ?_
      exact ih (i + 1) (by omega)
    · have eS : nI (orb (shF sg so se (nI g) (k g) sz).testBit i) ||| nI (2 ^ i) = nI (orb (shF sg so se (nI g) (k g) sz).testBit (i + 1)) := by rw [nb_or, orb_t (c := (shF sg so se (nI g) (k g) sz).testBit) rfl c89]
      refine Z.iconst (pc := 92) (v := (nI 1)) dX9_shynessOf_92 (by decide) ?_
      refine Z.iload_n (pc := 93) (i := 3) dX9_shynessOf_93 rfl rfl ?_
      refine Z.ishl (pc := 94) dX9_shynessOf_94 ?_
      refine Z.top (nb_shl (by omega)) ?_
      refine Z.goto (pc := 95) (tgt := 99) dX9_shynessOf_95 (by decide) ?_
      refine Z.ior (pc := 99) dX9_shynessOf_99 ?_
      refine Z.top (eS) ?_
      refine Z.istore_n (pc := 100) (i := 2) dX9_shynessOf_100 rfl (by decide) rfl ?_
      refine Z.iinc (pc := 101) (i := 3) (v := (nI (i + 1))) dX9_shynessOf_101 rfl (by exact ii_1 i) (by decide) rfl ?_
      refine Z.goto (pc := 104) (tgt := 4) dX9_shynessOf_104 (by decide) ?_
      refine Z.drop 4 ?_
      exact ih (i + 1) (by omega)
set_option maxRecDepth 100000 in
set_option maxHeartbeats 400000 in
theorem c_X9_shynessOf {h : hp} {n hr : Nat} {k s f : zF} (hM : Mm h n hr k s f) (g : Nat) (hg : g < n) {sz : Nat} {sg so se : zF} (hE : Me h sz sg so se) (sE : okE sz sg so se)  : Cn yX9_shynessOf cX9_shynessOf 6 (some .int) 2 [.ref 30, .int (nI g)] h (z_eq (some (.int (nI (shF sg so se (nI g) (k g) sz)))) h) := by
  refine Cn.of (by decide) (Nat.le_of_ble_eq_true rfl) ?_
  refine Z.eqL (lv' := [(0, .ref 30), (1, .int (nI g))]) rfl ?_
  refine Z.iconst (pc := 0) (v := (nI 0)) dX9_shynessOf_0 (by decide) ?_
  refine Z.istore_n (pc := 1) (i := 2) dX9_shynessOf_1 rfl (by decide) rfl ?_
  refine Z.iconst (pc := 2) (v := (nI 0)) dX9_shynessOf_2 (by decide) ?_
  refine Z.istore_n (pc := 3) (i := 3) dX9_shynessOf_3 rfl (by decide) rfl ?_
  exact l_X9_shynessOf hM g hg hE sE 10 0 rfl
set_option maxRecDepth 100000 in
set_option maxHeartbeats 400000 in
theorem l_X9_askIn {h : hp} {n hr : Nat} {k s f : zF} (hM : Mm h n hr k s f) (g : Nat) (hg : g < n) {m : Nat} (hm : m < 1024) {u v : Int32} {K : Option Value → hp → Prop} (j : Nat) (hk : Z yX9_askOf cX9_askOf 9 (some .int) 3 K 76 [(0, .ref 30), (1, .int (nI g)), (2, .int (nI m)), (3, .int u), (4, .int v), (5, .int (nI j)), (6, .int (nI (pop (m &&& stg (k g) (nI j)))))] [] h) : ∀ (r i : Nat) , i + r = 10 → Z yX9_askOf cX9_askOf 9 (some .int) 3 (K) 32 [(0, .ref 30), (1, .int (nI g)), (2, .int (nI m)), (3, .int u), (4, .int v), (5, .int (nI j)), (6, .int (nI (cntB (yesB (k g) m j) i))), (7, .int (nI i))] [] h := by
  have hn8 := hM.2.2.2.1.1
  have hp8 := p8 hn8
  have hlt := hM.2.2.1
  intro r
  induction r with
  | zero =>
    intro i hi
    obtain rfl : 10 = i := by omega
    refine Z.iload (pc := 32) (i := 7) dX9_askOf_32 rfl ?_
    refine Z.bipush (pc := 34) (v := (nI 9)) dX9_askOf_34 (by decide) ?_
    refine Z.icmp_gt_t (pc := 36) (tgt := 76) dX9_askOf_36 (by decide) (nI_lt (by decide) (by decide)) ?_
    refine Z.drop 7 ?_
    rw [yes_pop]
    exact hk
  | succ r ih =>
    intro i hi
    refine Z.iload (pc := 32) (i := 7) dX9_askOf_32 rfl ?_
    refine Z.bipush (pc := 34) (v := (nI 9)) dX9_askOf_34 (by decide) ?_
    refine Z.icmp_gt_f (pc := 36) (tgt := 76) dX9_askOf_36 (by decide) (nI_nlt (by omega) (by decide)) ?_
    refine Z.iload (pc := 39) (i := 6) dX9_askOf_39 rfl ?_
    refine Z.iload_n (pc := 41) (i := 2) dX9_askOf_41 rfl rfl ?_
    refine Z.iload (pc := 42) (i := 7) dX9_askOf_42 rfl ?_
    refine Z.callSi (pc := 44) dX9_askOf_44 (c_X9_isIn m i (by omega) (by omega)) zm_X9_105 zs_X9_isIn rfl rfl (by decide) (by decide) (Nat.le_of_ble_eq_true rfl) ?_
    refine Z.if_eq_b (pc := 47) (tgt := 66) dX9_askOf_47 (by decide) (fun c47 => ?_) (fun c47 => ?_)
    · have e : (yesB (k g) m j i) = false := by unfold yesB; rw [c47]; rfl
      refine Z.iconst (pc := 66) (v := (0)) dX9_askOf_66 (by decide) ?_
      refine Z.top (x' := zb (yesB (k g) m j i)) (by rw [e]; rfl) ?_
      refine Z.iadd (pc := 67) dX9_askOf_67 ?_
      refine Z.top ((zb_add _ _).trans (show _ = nI (cntB (yesB (k g) m j) (i + 1)) from rfl)) ?_
      refine Z.istore (pc := 68) (i := 6) dX9_askOf_68 (by decide) rfl ?_
      refine Z.iinc (pc := 70) (i := 7) (v := (nI (i + 1))) dX9_askOf_70 rfl (by exact ii_1 i) (by decide) rfl ?_
      refine Z.goto (pc := 73) (tgt := 32) dX9_askOf_73 (by decide) ?_
      exact ih (i + 1) (by omega)
    · refine Z.aload_n (pc := 50) (i := 0) dX9_askOf_50 rfl rfl ?_
      refine Z.iload_n (pc := 51) (i := 1) dX9_askOf_51 rfl rfl ?_
      refine Z.iload (pc := 52) (i := 7) dX9_askOf_52 rfl ?_
      refine Z.iload (pc := 54) (i := 5) dX9_askOf_54 rfl ?_
      refine Z.callVi (pc := 56) dX9_askOf_56 (c_X9_wouldGo hM g hg i _) zm_X9_205 zv_X9_wouldGo rfl rfl rfl rfl (by decide) (by decide) (Nat.le_of_ble_eq_true rfl) ?_
      refine Z.if_eq_b (pc := 59) (tgt := 66) dX9_askOf_59 (by decide) (fun c59 => ?_) (fun c59 => ?_)
      · have e : (yesB (k g) m j i) = false := by unfold yesB; rw [c59]; simp
        refine Z.iconst (pc := 66) (v := (0)) dX9_askOf_66 (by decide) ?_
        refine Z.top (x' := zb (yesB (k g) m j i)) (by rw [e]; rfl) ?_
        refine Z.iadd (pc := 67) dX9_askOf_67 ?_
        refine Z.top ((zb_add _ _).trans (show _ = nI (cntB (yesB (k g) m j) (i + 1)) from rfl)) ?_
        refine Z.istore (pc := 68) (i := 6) dX9_askOf_68 (by decide) rfl ?_
        refine Z.iinc (pc := 70) (i := 7) (v := (nI (i + 1))) dX9_askOf_70 rfl (by exact ii_1 i) (by decide) rfl ?_
        refine Z.goto (pc := 73) (tgt := 32) dX9_askOf_73 (by decide) ?_
        exact ih (i + 1) (by omega)
      · have e : (yesB (k g) m j i) = true := by unfold yesB; rw [c47, c59]; rfl
        refine Z.iconst (pc := 62) (v := (1)) dX9_askOf_62 (by decide) ?_
        refine Z.goto (pc := 63) (tgt := 67) dX9_askOf_63 (by decide) ?_
        refine Z.top (x' := zb (yesB (k g) m j i)) (by rw [e]; rfl) ?_
        refine Z.iadd (pc := 67) dX9_askOf_67 ?_
        refine Z.top ((zb_add _ _).trans (show _ = nI (cntB (yesB (k g) m j) (i + 1)) from rfl)) ?_
        refine Z.istore (pc := 68) (i := 6) dX9_askOf_68 (by decide) rfl ?_
        refine Z.iinc (pc := 70) (i := 7) (v := (nI (i + 1))) dX9_askOf_70 rfl (by exact ii_1 i) (by decide) rfl ?_
        refine Z.goto (pc := 73) (tgt := 32) dX9_askOf_73 (by decide) ?_
        exact ih (i + 1) (by omega)
set_option maxRecDepth 100000 in
set_option maxHeartbeats 400000 in
theorem l_X9_askOf {h : hp} {n hr : Nat} {k s f : zF} (hM : Mm h n hr k s f) (g : Nat) (hg : g < n) {m : Nat} (hm : m < 1024) (hm0 : ¬ m = 0) : ∀ (r i : Nat) , i + r = 17 → Z yX9_askOf cX9_askOf 9 (some .int) 3 (z_eq (some (.int (askI (k g) m))) h) 15 [(0, .ref 30), (1, .int (nI g)), (2, .int (nI m)), (3, .int (asF (k g) m i).1), (4, .int (lfI (k g) m i)), (5, .int (nI i))] [] h := by
  have hn8 := hM.2.2.2.1.1
  have hp8 := p8 hn8
  have hlt := hM.2.2.1
  intro r
  induction r with
  | zero =>
    intro i hi
    obtain rfl : 17 = i := by omega
    refine Z.iload (pc := 15) (i := 5) dX9_askOf_15 rfl ?_
    refine Z.bipush (pc := 17) (v := (nI 16)) dX9_askOf_17 (by decide) ?_
    refine Z.icmp_gt_t (pc := 19) (tgt := 137) dX9_askOf_19 (by decide) (nI_lt (by decide) (by decide)) ?_
    refine Z.iload_n (pc := 137) (i := 3) dX9_askOf_137 rfl rfl ?_
    refine Z.iret (pc := 138) (ty := .int) dX9_askOf_138 rfl rfl ?_
    exact ⟨by simp [askI, hm0], rfl⟩
  | succ r ih =>
    intro i hi
    refine Z.iload (pc := 15) (i := 5) dX9_askOf_15 rfl ?_
    refine Z.bipush (pc := 17) (v := (nI 16)) dX9_askOf_17 (by decide) ?_
    refine Z.icmp_gt_f (pc := 19) (tgt := 137) dX9_askOf_19 (by decide) (nI_nlt (by omega) (by decide)) ?_
    refine Z.iload_n (pc := 22) (i := 2) dX9_askOf_22 rfl rfl ?_
    refine Z.if_eq_f (pc := 23) (tgt := 137) dX9_askOf_23 (by decide) (fun z => hm0 ((nI_0' (by omega)).mp z)) ?_
    refine Z.iconst (pc := 26) (v := (nI 0)) dX9_askOf_26 (by decide) ?_
    refine Z.istore (pc := 27) (i := 6) dX9_askOf_27 (by decide) rfl ?_
    refine Z.iconst (pc := 29) (v := (nI 0)) dX9_askOf_29 (by decide) ?_
    refine Z.istore (pc := 30) (i := 7) dX9_askOf_30 (by decide) rfl ?_
    refine l_X9_askIn hM g hg hm i ?_ 10 0 rfl
    refine Z.iload_n (pc := 76) (i := 2) dX9_askOf_76 rfl rfl ?_
    refine Z.callSi (pc := 77) dX9_askOf_77 (c_X9_size m (by omega)) zm_X9_154 zs_X9_size rfl rfl (by decide) (by decide) (Nat.le_of_ble_eq_true rfl) ?_
    refine Z.iload (pc := 80) (i := 6) dX9_askOf_80 rfl ?_
    refine Z.isub (pc := 82) dX9_askOf_82 ?_
    refine Z.top ((pk_sub (by have := cnt_sub (m := m) (b := stg (k g) (nI i)) 10; unfold pop; omega)).trans (show _ = nI (pop (dif m (m &&& stg (k g) (nI i)))) from congrArg nI pop_no.symm)) ?_
    refine Z.istore (pc := 83) (i := 7) dX9_askOf_83 (by decide) rfl ?_
    refine Z.iload (pc := 85) (i := 6) dX9_askOf_85 rfl ?_
    refine Z.iload (pc := 87) (i := 7) dX9_askOf_87 rfl ?_
    refine Z.icmp_le (pc := 89) (tgt := 97) dX9_askOf_89 (by decide) (fun c89 => ?_) (fun c89 => ?_)
    · have eW : nI (pop (dif m (m &&& stg (k g) (nI i)))) = nI (asL (k g) m i) := congrArg nI (Nat.max_eq_right ((nI_leI (Nat.lt_of_le_of_lt (pop_le _) (by decide)) (Nat.lt_of_le_of_lt (pop_le _) (by decide))).mp c89)).symm
      refine Z.iload (pc := 97) (i := 7) dX9_askOf_97 rfl ?_
      refine Z.top (eW) ?_
      refine Z.istore (pc := 99) (i := 8) dX9_askOf_99 (by decide) rfl ?_
      refine Z.iload (pc := 101) (i := 8) dX9_askOf_101 rfl ?_
      refine Z.iload (pc := 103) (i := 4) dX9_askOf_103 rfl ?_
      refine Z.icmp_ge (pc := 105) (tgt := 113) dX9_askOf_105 (by decide) (fun c105 => ?_) (fun c105 => ?_)
      · have e1 := (as_keep c105).2
        refine Z.iload_n (pc := 113) (i := 3) dX9_askOf_113 rfl rfl ?_
        refine Z.top (e1) ?_
        refine Z.istore_n (pc := 114) (i := 3) dX9_askOf_114 rfl (by decide) rfl ?_
        refine Z.iload (pc := 115) (i := 8) dX9_askOf_115 rfl ?_
        refine Z.iload (pc := 117) (i := 4) dX9_askOf_117 rfl ?_
        refine Z.icmp_ge (pc := 119) (tgt := 127) dX9_askOf_119 (by decide) (fun c119 => ?_) (fun c119 => ?_)
        · have e2 := (as_keep c119).1
          refine Z.iload (pc := 127) (i := 4) dX9_askOf_127 rfl ?_
          refine Z.top (e2) ?_
          refine Z.istore (pc := 129) (i := 4) dX9_askOf_129 (by decide) rfl ?_
          refine Z.iinc (pc := 131) (i := 5) (v := (nI (i + 1))) dX9_askOf_131 rfl (by exact ii_1 i) (by decide) rfl ?_
          refine Z.goto (pc := 134) (tgt := 15) dX9_askOf_134 (by decide) ?_
          refine Z.drop 6 ?_
          refine Z.drop 7 ?_
          refine Z.drop 8 ?_
          exact ih (i + 1) (by omega)
        · have e2 := (as_take c119).1
          refine Z.iload (pc := 122) (i := 8) dX9_askOf_122 rfl ?_
          refine Z.top (e2) ?_
          refine Z.goto (pc := 124) (tgt := 129) dX9_askOf_124 (by decide) ?_
          refine Z.istore (pc := 129) (i := 4) dX9_askOf_129 (by decide) rfl ?_
          refine Z.iinc (pc := 131) (i := 5) (v := (nI (i + 1))) dX9_askOf_131 rfl (by exact ii_1 i) (by decide) rfl ?_
          refine Z.goto (pc := 134) (tgt := 15) dX9_askOf_134 (by decide) ?_
          refine Z.drop 6 ?_
          refine Z.drop 7 ?_
          refine Z.drop 8 ?_
          exact ih (i + 1) (by omega)
      · have e1 := (as_take c105).2
        refine Z.iload (pc := 108) (i := 5) dX9_askOf_108 rfl ?_
        refine Z.top (e1) ?_
        refine Z.goto (pc := 110) (tgt := 114) dX9_askOf_110 (by decide) ?_
        refine Z.istore_n (pc := 114) (i := 3) dX9_askOf_114 rfl (by decide) rfl ?_
        refine Z.iload (pc := 115) (i := 8) dX9_askOf_115 rfl ?_
        refine Z.iload (pc := 117) (i := 4) dX9_askOf_117 rfl ?_
        refine Z.icmp_ge (pc := 119) (tgt := 127) dX9_askOf_119 (by decide) (fun c119 => ?_) (fun c119 => ?_)
        · have e2 := (as_keep c119).1
          refine Z.iload (pc := 127) (i := 4) dX9_askOf_127 rfl ?_
          refine Z.top (e2) ?_
          refine Z.istore (pc := 129) (i := 4) dX9_askOf_129 (by decide) rfl ?_
          refine Z.iinc (pc := 131) (i := 5) (v := (nI (i + 1))) dX9_askOf_131 rfl (by exact ii_1 i) (by decide) rfl ?_
          refine Z.goto (pc := 134) (tgt := 15) dX9_askOf_134 (by decide) ?_
          refine Z.drop 6 ?_
          refine Z.drop 7 ?_
          refine Z.drop 8 ?_
          exact ih (i + 1) (by omega)
        · have e2 := (as_take c119).1
          refine Z.iload (pc := 122) (i := 8) dX9_askOf_122 rfl ?_
          refine Z.top (e2) ?_
          refine Z.goto (pc := 124) (tgt := 129) dX9_askOf_124 (by decide) ?_
          refine Z.istore (pc := 129) (i := 4) dX9_askOf_129 (by decide) rfl ?_
          refine Z.iinc (pc := 131) (i := 5) (v := (nI (i + 1))) dX9_askOf_131 rfl (by exact ii_1 i) (by decide) rfl ?_
          refine Z.goto (pc := 134) (tgt := 15) dX9_askOf_134 (by decide) ?_
          refine Z.drop 6 ?_
          refine Z.drop 7 ?_
          refine Z.drop 8 ?_
          exact ih (i + 1) (by omega)
    · have eW : nI (pop (m &&& stg (k g) (nI i))) = nI (asL (k g) m i) := congrArg nI (Nat.max_eq_left (by have : ¬ (pop (m &&& stg (k g) (nI i))) ≤ (pop (dif m (m &&& stg (k g) (nI i)))) := fun z => c89 (nI_le z (Nat.lt_of_le_of_lt (pop_le _) (by decide))); omega)).symm
      refine Z.iload (pc := 92) (i := 6) dX9_askOf_92 rfl ?_
      refine Z.top (eW) ?_
      refine Z.goto (pc := 94) (tgt := 99) dX9_askOf_94 (by decide) ?_
      refine Z.istore (pc := 99) (i := 8) dX9_askOf_99 (by decide) rfl ?_
      refine Z.iload (pc := 101) (i := 8) dX9_askOf_101 rfl ?_
      refine Z.iload (pc := 103) (i := 4) dX9_askOf_103 rfl ?_
      refine Z.icmp_ge (pc := 105) (tgt := 113) dX9_askOf_105 (by decide) (fun c105 => ?_) (fun c105 => ?_)
      · have e1 := (as_keep c105).2
        refine Z.iload_n (pc := 113) (i := 3) dX9_askOf_113 rfl rfl ?_
        refine Z.top (e1) ?_
        refine Z.istore_n (pc := 114) (i := 3) dX9_askOf_114 rfl (by decide) rfl ?_
        refine Z.iload (pc := 115) (i := 8) dX9_askOf_115 rfl ?_
        refine Z.iload (pc := 117) (i := 4) dX9_askOf_117 rfl ?_
        refine Z.icmp_ge (pc := 119) (tgt := 127) dX9_askOf_119 (by decide) (fun c119 => ?_) (fun c119 => ?_)
        · have e2 := (as_keep c119).1
          refine Z.iload (pc := 127) (i := 4) dX9_askOf_127 rfl ?_
          refine Z.top (e2) ?_
          refine Z.istore (pc := 129) (i := 4) dX9_askOf_129 (by decide) rfl ?_
          refine Z.iinc (pc := 131) (i := 5) (v := (nI (i + 1))) dX9_askOf_131 rfl (by exact ii_1 i) (by decide) rfl ?_
          refine Z.goto (pc := 134) (tgt := 15) dX9_askOf_134 (by decide) ?_
          refine Z.drop 6 ?_
          refine Z.drop 7 ?_
          refine Z.drop 8 ?_
          exact ih (i + 1) (by omega)
        · have e2 := (as_take c119).1
          refine Z.iload (pc := 122) (i := 8) dX9_askOf_122 rfl ?_
          refine Z.top (e2) ?_
          refine Z.goto (pc := 124) (tgt := 129) dX9_askOf_124 (by decide) ?_
          refine Z.istore (pc := 129) (i := 4) dX9_askOf_129 (by decide) rfl ?_
          refine Z.iinc (pc := 131) (i := 5) (v := (nI (i + 1))) dX9_askOf_131 rfl (by exact ii_1 i) (by decide) rfl ?_
          refine Z.goto (pc := 134) (tgt := 15) dX9_askOf_134 (by decide) ?_
          refine Z.drop 6 ?_
          refine Z.drop 7 ?_
          refine Z.drop 8 ?_
          exact ih (i + 1) (by omega)
      · have e1 := (as_take c105).2
        refine Z.iload (pc := 108) (i := 5) dX9_askOf_108 rfl ?_
        refine Z.top (e1) ?_
        refine Z.goto (pc := 110) (tgt := 114) dX9_askOf_110 (by decide) ?_
        refine Z.istore_n (pc := 114) (i := 3) dX9_askOf_114 rfl (by decide) rfl ?_
        refine Z.iload (pc := 115) (i := 8) dX9_askOf_115 rfl ?_
        refine Z.iload (pc := 117) (i := 4) dX9_askOf_117 rfl ?_
        refine Z.icmp_ge (pc := 119) (tgt := 127) dX9_askOf_119 (by decide) (fun c119 => ?_) (fun c119 => ?_)
        · have e2 := (as_keep c119).1
          refine Z.iload (pc := 127) (i := 4) dX9_askOf_127 rfl ?_
          refine Z.top (e2) ?_
          refine Z.istore (pc := 129) (i := 4) dX9_askOf_129 (by decide) rfl ?_
          refine Z.iinc (pc := 131) (i := 5) (v := (nI (i + 1))) dX9_askOf_131 rfl (by exact ii_1 i) (by decide) rfl ?_
          refine Z.goto (pc := 134) (tgt := 15) dX9_askOf_134 (by decide) ?_
          refine Z.drop 6 ?_
          refine Z.drop 7 ?_
          refine Z.drop 8 ?_
          exact ih (i + 1) (by omega)
        · have e2 := (as_take c119).1
          refine Z.iload (pc := 122) (i := 8) dX9_askOf_122 rfl ?_
          refine Z.top (e2) ?_
          refine Z.goto (pc := 124) (tgt := 129) dX9_askOf_124 (by decide) ?_
          refine Z.istore (pc := 129) (i := 4) dX9_askOf_129 (by decide) rfl ?_
          refine Z.iinc (pc := 131) (i := 5) (v := (nI (i + 1))) dX9_askOf_131 rfl (by exact ii_1 i) (by decide) rfl ?_
          refine Z.goto (pc := 134) (tgt := 15) dX9_askOf_134 (by decide) ?_
          refine Z.drop 6 ?_
          refine Z.drop 7 ?_
          refine Z.drop 8 ?_
          exact ih (i + 1) (by omega)
set_option maxRecDepth 100000 in
set_option maxHeartbeats 400000 in
theorem c_X9_askOf {h : hp} {n hr : Nat} {k s f : zF} (hM : Mm h n hr k s f) (g : Nat) (hg : g < n) {sz : Nat} {sg so se : zF} (hE : Me h sz sg so se) (sE : okE sz sg so se)  : Cn yX9_askOf cX9_askOf 9 (some .int) 3 [.ref 30, .int (nI g)] h (z_eq (some (.int (askI (k g) (shF sg so se (nI g) (k g) sz)))) h) := by
  have hn8 := hM.2.2.2.1.1
  have hp8 := p8 hn8
  have hlt := hM.2.2.1
  have hm := shF_lt sg so se (nI g) (k g) sz
  refine Cn.of (by decide) (Nat.le_of_ble_eq_true rfl) ?_
  refine Z.eqL (lv' := [(0, .ref 30), (1, .int (nI g))]) rfl ?_
  refine Z.aload_n (pc := 0) (i := 0) dX9_askOf_0 rfl rfl ?_
  refine Z.iload_n (pc := 1) (i := 1) dX9_askOf_1 rfl rfl ?_
  refine Z.callVi (pc := 2) dX9_askOf_2 (c_X9_shynessOf hM g hg hE sE) zm_X9_135 zv_X9_shynessOf rfl rfl rfl rfl (by decide) (by decide) (Nat.le_of_ble_eq_true rfl) ?_
  refine Z.istore_n (pc := 5) (i := 2) dX9_askOf_5 rfl (by decide) rfl ?_
  refine Z.iconst (pc := 6) (v := (-1)) dX9_askOf_6 (by decide) ?_
  refine Z.istore_n (pc := 7) (i := 3) dX9_askOf_7 rfl (by decide) rfl ?_
  refine Z.ldc (pc := 8) dX9_askOf_8 zk_X9_173 ?_
  refine Z.istore (pc := 10) (i := 4) dX9_askOf_10 (by decide) rfl ?_
  refine Z.iconst (pc := 12) (v := (nI 0)) dX9_askOf_12 (by decide) ?_
  refine Z.istore (pc := 13) (i := 5) dX9_askOf_13 (by decide) rfl ?_
  by_cases q : (shF sg so se (nI g) (k g) sz) = 0
  · refine Z.iload (pc := 15) (i := 5) dX9_askOf_15 rfl ?_
    refine Z.bipush (pc := 17) (v := (nI 16)) dX9_askOf_17 (by decide) ?_
    refine Z.icmp_gt_f (pc := 19) (tgt := 137) dX9_askOf_19 (by decide) (nI_nlt (by decide) (by decide)) ?_
    refine Z.iload_n (pc := 22) (i := 2) dX9_askOf_22 rfl rfl ?_
    refine Z.if_eq_t (pc := 23) (tgt := 137) dX9_askOf_23 (by decide) (by rw [q]; rfl) ?_
    refine Z.iload_n (pc := 137) (i := 3) dX9_askOf_137 rfl rfl ?_
    refine Z.iret (pc := 138) (ty := .int) dX9_askOf_138 rfl rfl ?_
    exact ⟨by simp [askI, q], rfl⟩
  · exact l_X9_askOf hM g hg hm q 17 0 rfl
set_option maxRecDepth 100000 in
set_option maxHeartbeats 400000 in
theorem l_X9_oddPow {h : hp} {n hr : Nat} {k s f : zF} (hM : Mm h n hr k s f) (g : Nat) (hg : g < n) (hb : hr.testBit g = true) (tn : Nat) (ht : tn ≤ 10) {w : Int32} {u : Int32} {K : Option Value → hp → Prop} (hk : Z yX9_oddsNow cX9_oddsNow 11 (some .int) 6 K 44 [(0, .ref 30), (1, .int (nI g)), (2, .int (nI tn)), (3, .int w), (4, .int (nI (otN hr g))), (5, .int (nI (10 ^ pop (otN hr g)))), (6, .int u)] [] h) : ∀ (r i : Nat) , i + r = pop (otN hr g) → Z yX9_oddsNow cX9_oddsNow 11 (some .int) 6 (K) 21 [(0, .ref 30), (1, .int (nI g)), (2, .int (nI tn)), (3, .int w), (4, .int (nI (otN hr g))), (5, .int (nI (10 ^ i))), (6, .int u), (7, .int (nI i))] [] h := by
  have hn8 := hM.2.2.2.1.1
  have hp8 := p8 hn8
  have hlt := hM.2.2.1
  have hol : (otN hr g) < 2 ^ n := dif_lt hlt
  intro r
  induction r with
  | zero =>
    intro i hi
    obtain rfl : pop (otN hr g) = i := by omega
    refine Z.iload (pc := 21) (i := 7) dX9_oddsNow_21 rfl ?_
    refine Z.iload (pc := 23) (i := 4) dX9_oddsNow_23 rfl ?_
    refine Z.callSi (pc := 25) dX9_oddsNow_25 (c_X9_size _ (by omega)) zm_X9_154 zs_X9_size rfl rfl (by decide) (by decide) (Nat.le_of_ble_eq_true rfl) ?_
    refine Z.icmp_ge_t (pc := 28) (tgt := 44) dX9_oddsNow_28 (by decide) (nI_le (Nat.le_refl _) (Nat.lt_of_le_of_lt (pop_le _) (by decide))) ?_
    refine Z.drop 7 ?_
    exact hk
  | succ r ih =>
    intro i hi
    refine Z.iload (pc := 21) (i := 7) dX9_oddsNow_21 rfl ?_
    refine Z.iload (pc := 23) (i := 4) dX9_oddsNow_23 rfl ?_
    refine Z.callSi (pc := 25) dX9_oddsNow_25 (c_X9_size _ (by omega)) zm_X9_154 zs_X9_size rfl rfl (by decide) (by decide) (Nat.le_of_ble_eq_true rfl) ?_
    refine Z.icmp_ge_f (pc := 28) (tgt := 44) dX9_oddsNow_28 (by decide) (nI_ge (by omega) (Nat.lt_of_le_of_lt (pop_le _) (by decide))) ?_
    refine Z.iload (pc := 31) (i := 5) dX9_oddsNow_31 rfl ?_
    refine Z.bipush (pc := 33) (v := (nI 10)) dX9_oddsNow_33 (by decide) ?_
    refine Z.imul (pc := 35) dX9_oddsNow_35 ?_
    refine Z.top ((pk_mul _ _).trans (show _ = nI (10 ^ (i + 1)) from rfl)) ?_
    refine Z.istore (pc := 36) (i := 5) dX9_oddsNow_36 (by decide) rfl ?_
    refine Z.iinc (pc := 38) (i := 7) (v := (nI (i + 1))) dX9_oddsNow_38 rfl (by exact ii_1 i) (by decide) rfl ?_
    refine Z.goto (pc := 41) (tgt := 21) dX9_oddsNow_41 (by decide) ?_
    exact ih (i + 1) (by omega)
set_option maxRecDepth 100000 in
set_option maxHeartbeats 400000 in
theorem l_X9_oddPr {h : hp} {n hr : Nat} {k s f : zF} (hM : Mm h n hr k s f) (g : Nat) (hg : g < n) (hb : hr.testBit g = true) (tn : Nat) (ht : tn ≤ 10) {w : Int32} {u v : Int32} {K : Option Value → hp → Prop} (aw : Nat) (haw : aw < 2 ^ 31) (hk : Z yX9_oddsNow cX9_oddsNow 11 (some .int) 6 K 143 [(0, .ref 30), (1, .int (nI g)), (2, .int (nI tn)), (3, .int w), (4, .int (nI (otN hr g))), (5, .int u), (6, .int v), (7, .int (nI aw)), (8, .int (nI (prN (otN hr g) aw tn n)))] [] h) : ∀ (r i : Nat) , i + r = n → Z yX9_oddsNow cX9_oddsNow 11 (some .int) 6 (K) 87 [(0, .ref 30), (1, .int (nI g)), (2, .int (nI tn)), (3, .int w), (4, .int (nI (otN hr g))), (5, .int u), (6, .int v), (7, .int (nI aw)), (8, .int (nI (prN (otN hr g) aw tn i))), (9, .int (nI i))] [] h := by
  have hn8 := hM.2.2.2.1.1
  have hp8 := p8 hn8
  have hlt := hM.2.2.1
  have hol : (otN hr g) < 2 ^ n := dif_lt hlt
  intro r
  induction r with
  | zero =>
    intro i hi
    obtain rfl : n = i := by omega
    refine Z.iload (pc := 87) (i := 9) dX9_oddsNow_87 rfl ?_
    refine Z.aload_n (pc := 89) (i := 0) dX9_oddsNow_89 rfl rfl ?_
    refine Z.getIv (pc := 90) dX9_oddsNow_90 zf_X9_83 rfl rfl hM.1 ?_
    refine Z.icmp_ge_t (pc := 93) (tgt := 143) dX9_oddsNow_93 (by decide) (nI_le (Nat.le_refl _) (by omega)) ?_
    refine Z.drop 9 ?_
    first | exact hk | (refine Z.drop 10 ?_; exact hk; done)
  | succ r ih =>
    intro i hi
    refine Z.iload (pc := 87) (i := 9) dX9_oddsNow_87 rfl ?_
    refine Z.aload_n (pc := 89) (i := 0) dX9_oddsNow_89 rfl rfl ?_
    refine Z.getIv (pc := 90) dX9_oddsNow_90 zf_X9_83 rfl rfl hM.1 ?_
    refine Z.icmp_ge_f (pc := 93) (tgt := 143) dX9_oddsNow_93 (by decide) (nI_ge (by omega) (by omega)) ?_
    refine Z.iload (pc := 96) (i := 7) dX9_oddsNow_96 rfl ?_
    refine Z.iload (pc := 98) (i := 9) dX9_oddsNow_98 rfl ?_
    refine Z.callSi (pc := 100) dX9_oddsNow_100 (c_X9_isIn aw i (by omega) haw) zm_X9_105 zs_X9_isIn rfl rfl (by decide) (by decide) (Nat.le_of_ble_eq_true rfl) ?_
    refine Z.if_eq_b (pc := 103) (tgt := 113) dX9_oddsNow_103 (by decide) (fun c103 => ?_) (fun c103 => ?_)
    · have e1 : nI tn = nI (cond (aw.testBit i) (10 - tn) tn) := by rw [c103]; rfl
      refine Z.iload_n (pc := 113) (i := 2) dX9_oddsNow_113 rfl rfl ?_
      refine Z.top (e1) ?_
      refine Z.istore (pc := 114) (i := 10) dX9_oddsNow_114 (by decide) rfl ?_
      refine Z.iload (pc := 116) (i := 8) dX9_oddsNow_116 rfl ?_
      refine Z.iload (pc := 118) (i := 4) dX9_oddsNow_118 rfl ?_
      refine Z.iload (pc := 120) (i := 9) dX9_oddsNow_120 rfl ?_
      refine Z.callSi (pc := 122) dX9_oddsNow_122 (c_X9_isIn (otN hr g) i (by omega) (l31 hol hn8)) zm_X9_105 zs_X9_isIn rfl rfl (by decide) (by decide) (Nat.le_of_ble_eq_true rfl) ?_
      refine Z.if_eq_b (pc := 125) (tgt := 133) dX9_oddsNow_125 (by decide) (fun c125 => ?_) (fun c125 => ?_)
      · have e2 : nI (prN (otN hr g) aw tn i) * nI 1 = nI (prN (otN hr g) aw tn (i + 1)) := by rw [pk_mul]; show _ = nI (_ * cond _ _ _); rw [c125]; rfl
        refine Z.iconst (pc := 133) (v := (nI 1)) dX9_oddsNow_133 (by decide) ?_
        refine Z.imul (pc := 134) dX9_oddsNow_134 ?_
        refine Z.top (e2) ?_
        refine Z.istore (pc := 135) (i := 8) dX9_oddsNow_135 (by decide) rfl ?_
        refine Z.iinc (pc := 137) (i := 9) (v := (nI (i + 1))) dX9_oddsNow_137 rfl (by exact ii_1 i) (by decide) rfl ?_
        refine Z.goto (pc := 140) (tgt := 87) dX9_oddsNow_140 (by decide) ?_
        refine Z.drop 10 ?_
        exact ih (i + 1) (by omega)
      · have e2 : nI (prN (otN hr g) aw tn i) * nI (cond (aw.testBit i) (10 - tn) tn) = nI (prN (otN hr g) aw tn (i + 1)) := by rw [pk_mul]; show _ = nI (_ * cond _ _ _); rw [c125]; rfl
        refine Z.iload (pc := 128) (i := 10) dX9_oddsNow_128 rfl ?_
        refine Z.goto (pc := 130) (tgt := 134) dX9_oddsNow_130 (by decide) ?_
        refine Z.imul (pc := 134) dX9_oddsNow_134 ?_
        refine Z.top (e2) ?_
        refine Z.istore (pc := 135) (i := 8) dX9_oddsNow_135 (by decide) rfl ?_
        refine Z.iinc (pc := 137) (i := 9) (v := (nI (i + 1))) dX9_oddsNow_137 rfl (by exact ii_1 i) (by decide) rfl ?_
        refine Z.goto (pc := 140) (tgt := 87) dX9_oddsNow_140 (by decide) ?_
        refine Z.drop 10 ?_
        exact ih (i + 1) (by omega)
    · have e1 : nI (10 - tn) = nI (cond (aw.testBit i) (10 - tn) tn) := by rw [c103]; rfl
      refine Z.bipush (pc := 106) (v := (nI 10)) dX9_oddsNow_106 (by decide) ?_
      refine Z.iload_n (pc := 108) (i := 2) dX9_oddsNow_108 rfl rfl ?_
      refine Z.isub (pc := 109) dX9_oddsNow_109 ?_
      refine Z.top ((pk_sub ht).trans e1) ?_
      refine Z.goto (pc := 110) (tgt := 114) dX9_oddsNow_110 (by decide) ?_
      refine Z.istore (pc := 114) (i := 10) dX9_oddsNow_114 (by decide) rfl ?_
      refine Z.iload (pc := 116) (i := 8) dX9_oddsNow_116 rfl ?_
      refine Z.iload (pc := 118) (i := 4) dX9_oddsNow_118 rfl ?_
      refine Z.iload (pc := 120) (i := 9) dX9_oddsNow_120 rfl ?_
      refine Z.callSi (pc := 122) dX9_oddsNow_122 (c_X9_isIn (otN hr g) i (by omega) (l31 hol hn8)) zm_X9_105 zs_X9_isIn rfl rfl (by decide) (by decide) (Nat.le_of_ble_eq_true rfl) ?_
      refine Z.if_eq_b (pc := 125) (tgt := 133) dX9_oddsNow_125 (by decide) (fun c125 => ?_) (fun c125 => ?_)
      · have e2 : nI (prN (otN hr g) aw tn i) * nI 1 = nI (prN (otN hr g) aw tn (i + 1)) := by rw [pk_mul]; show _ = nI (_ * cond _ _ _); rw [c125]; rfl
        refine Z.iconst (pc := 133) (v := (nI 1)) dX9_oddsNow_133 (by decide) ?_
        refine Z.imul (pc := 134) dX9_oddsNow_134 ?_
        refine Z.top (e2) ?_
        refine Z.istore (pc := 135) (i := 8) dX9_oddsNow_135 (by decide) rfl ?_
        refine Z.iinc (pc := 137) (i := 9) (v := (nI (i + 1))) dX9_oddsNow_137 rfl (by exact ii_1 i) (by decide) rfl ?_
        refine Z.goto (pc := 140) (tgt := 87) dX9_oddsNow_140 (by decide) ?_
        refine Z.drop 10 ?_
        exact ih (i + 1) (by omega)
      · have e2 : nI (prN (otN hr g) aw tn i) * nI (cond (aw.testBit i) (10 - tn) tn) = nI (prN (otN hr g) aw tn (i + 1)) := by rw [pk_mul]; show _ = nI (_ * cond _ _ _); rw [c125]; rfl
        refine Z.iload (pc := 128) (i := 10) dX9_oddsNow_128 rfl ?_
        refine Z.goto (pc := 130) (tgt := 134) dX9_oddsNow_130 (by decide) ?_
        refine Z.imul (pc := 134) dX9_oddsNow_134 ?_
        refine Z.top (e2) ?_
        refine Z.istore (pc := 135) (i := 8) dX9_oddsNow_135 (by decide) rfl ?_
        refine Z.iinc (pc := 137) (i := 9) (v := (nI (i + 1))) dX9_oddsNow_137 rfl (by exact ii_1 i) (by decide) rfl ?_
        refine Z.goto (pc := 140) (tgt := 87) dX9_oddsNow_140 (by decide) ?_
        refine Z.drop 10 ?_
        exact ih (i + 1) (by omega)
set_option maxRecDepth 100000 in
set_option maxHeartbeats 400000 in
theorem l_X9_oddSum {h : hp} {n hr : Nat} {k s f : zF} (hM : Mm h n hr k s f) (g : Nat) (hg : g < n) (hb : hr.testBit g = true) (tn : Nat) (ht : tn ≤ 10) {w : Int32} {u : Int32} {K : Option Value → hp → Prop} (hk : Z yX9_oddsNow cX9_oddsNow 11 (some .int) 6 K 156 [(0, .ref 30), (1, .int (nI g)), (2, .int (nI tn)), (3, .int w), (4, .int (nI (otN hr g))), (5, .int u), (6, .int (nI (awN k s f n hr g tn ((otN hr g) + 1))))] [] h) : ∀ (r i : Nat) , i + r = (otN hr g) + 1 → Z yX9_oddsNow cX9_oddsNow 11 (some .int) 6 (K) 47 [(0, .ref 30), (1, .int (nI g)), (2, .int (nI tn)), (3, .int w), (4, .int (nI (otN hr g))), (5, .int u), (6, .int (nI (awN k s f n hr g tn i))), (7, .int (nI i))] [] h := by
  have hn8 := hM.2.2.2.1.1
  have hp8 := p8 hn8
  have hlt := hM.2.2.1
  have hol : (otN hr g) < 2 ^ n := dif_lt hlt
  intro r
  induction r with
  | zero =>
    intro i hi
    obtain rfl : (otN hr g) + 1 = i := by omega
    refine Z.iload (pc := 47) (i := 7) dX9_oddsNow_47 rfl ?_
    refine Z.iload (pc := 49) (i := 4) dX9_oddsNow_49 rfl ?_
    refine Z.icmp_gt_t (pc := 51) (tgt := 156) dX9_oddsNow_51 (by decide) (nI_lt (by omega) (by omega)) ?_
    refine Z.drop 7 ?_
    exact hk
  | succ r ih =>
    intro i hi
    refine Z.iload (pc := 47) (i := 7) dX9_oddsNow_47 rfl ?_
    refine Z.iload (pc := 49) (i := 4) dX9_oddsNow_49 rfl ?_
    refine Z.icmp_gt_f (pc := 51) (tgt := 156) dX9_oddsNow_51 (by decide) (nI_nlt (by omega) (by omega)) ?_
    refine Z.iload (pc := 54) (i := 7) dX9_oddsNow_54 rfl ?_
    refine Z.iload (pc := 56) (i := 4) dX9_oddsNow_56 rfl ?_
    refine Z.iconst (pc := 58) (v := (-1)) dX9_oddsNow_58 (by decide) ?_
    refine Z.ixor (pc := 59) dX9_oddsNow_59 ?_
    refine Z.iand (pc := 60) dX9_oddsNow_60 ?_
    refine Z.top (nb_dif _ _) ?_
    refine Z.if_ne (pc := 61) (tgt := 150) dX9_oddsNow_61 (by decide) (fun c61 => ?_) (fun c61 => ?_)
    · have q : ¬ dif i (otN hr g) = 0 := fun z => c61 (by rw [z]; rfl)
      have hB : awB k s f n hr g i = false := by unfold awB; rw [decide_eq_false q]; rfl
      have fin := ih (i + 1) (by omega)
      rw [show awN k s f n hr g tn (i + 1) = awN k s f n hr g tn i from by show _ + cond _ _ _ = _; rw [hB]; rfl] at fin
      refine Z.iinc (pc := 150) (i := 7) (v := (nI (i + 1))) dX9_oddsNow_150 rfl (by exact ii_1 i) (by decide) rfl ?_
      refine Z.goto (pc := 153) (tgt := 47) dX9_oddsNow_153 (by decide) ?_
      exact fin
    · have q : dif i (otN hr g) = 0 := (nI_0' (Nat.lt_of_le_of_lt (dif_le _ _) (by omega))).mp c61
      have hil : i < 2 ^ n := by omega
      refine Z.aload_n (pc := 64) (i := 0) dX9_oddsNow_64 rfl rfl ?_
      refine Z.iload (pc := 65) (i := 7) dX9_oddsNow_65 rfl ?_
      refine Z.iconst (pc := 67) (v := (nI 1)) dX9_oddsNow_67 (by decide) ?_
      refine Z.iload_n (pc := 68) (i := 1) dX9_oddsNow_68 rfl rfl ?_
      refine Z.ishl (pc := 69) dX9_oddsNow_69 ?_
      refine Z.top (nb_shl (by omega)) ?_
      refine Z.ior (pc := 70) dX9_oddsNow_70 ?_
      refine Z.top (nb_or _ _) ?_
      refine Z.callVi (pc := 71) dX9_oddsNow_71 (c_X9_mostOf hM _ (or_lt hil (Nat.pow_lt_pow_right (by decide) hg))) zm_X9_167 zv_X9_mostOf rfl rfl rfl rfl (by decide) (by decide) (Nat.le_of_ble_eq_true rfl) ?_
      refine Z.iload_n (pc := 74) (i := 1) dX9_oddsNow_74 rfl rfl ?_
      refine Z.callSi (pc := 75) dX9_oddsNow_75 (c_X9_isIn _ g (by omega) (Nat.lt_of_le_of_lt mst_le (l31 (or_lt hil (Nat.pow_lt_pow_right (by decide) hg)) hn8))) zm_X9_105 zs_X9_isIn rfl rfl (by decide) (by decide) (Nat.le_of_ble_eq_true rfl) ?_
      refine Z.if_eq_b (pc := 78) (tgt := 150) dX9_oddsNow_78 (by decide) (fun c78 => ?_) (fun c78 => ?_)
      · have hB : awB k s f n hr g i = false := by unfold awB; rw [c78]; simp
        have fin := ih (i + 1) (by omega)
        rw [show awN k s f n hr g tn (i + 1) = awN k s f n hr g tn i from by show _ + cond _ _ _ = _; rw [hB]; rfl] at fin
        refine Z.iinc (pc := 150) (i := 7) (v := (nI (i + 1))) dX9_oddsNow_150 rfl (by exact ii_1 i) (by decide) rfl ?_
        refine Z.goto (pc := 153) (tgt := 47) dX9_oddsNow_153 (by decide) ?_
        exact fin
      · have hB : awB k s f n hr g i = true := by unfold awB; rw [c78, decide_eq_true q]; rfl
        refine Z.iconst (pc := 81) (v := (nI 1)) dX9_oddsNow_81 (by decide) ?_
        refine Z.istore (pc := 82) (i := 8) dX9_oddsNow_82 (by decide) rfl ?_
        refine Z.iconst (pc := 84) (v := (nI 0)) dX9_oddsNow_84 (by decide) ?_
        refine Z.istore (pc := 85) (i := 9) dX9_oddsNow_85 (by decide) rfl ?_
        refine l_X9_oddPr hM g hg hb tn ht i (by omega) ?_ n 0 (by omega)
        refine Z.iload (pc := 143) (i := 6) dX9_oddsNow_143 rfl ?_
        refine Z.iload (pc := 145) (i := 8) dX9_oddsNow_145 rfl ?_
        refine Z.iadd (pc := 147) dX9_oddsNow_147 ?_
        refine Z.top ((nI_add _ _).trans (show _ = nI (awN k s f n hr g tn (i + 1)) from by show nI (_ + _) = nI (_ + cond _ _ _); rw [hB]; rfl)) ?_
        refine Z.istore (pc := 148) (i := 6) dX9_oddsNow_148 (by decide) rfl ?_
        refine Z.iinc (pc := 150) (i := 7) (v := (nI (i + 1))) dX9_oddsNow_150 rfl (by exact ii_1 i) (by decide) rfl ?_
        refine Z.goto (pc := 153) (tgt := 47) dX9_oddsNow_153 (by decide) ?_
        refine Z.drop 8 ?_
        exact ih (i + 1) (by omega)
set_option maxRecDepth 100000 in
set_option maxHeartbeats 400000 in
theorem c_X9_oddsNow {h : hp} {n hr : Nat} {k s f : zF} (hM : Mm h n hr k s f) (g : Nat) (hg : g < n) (hb : hr.testBit g = true) (tn : Nat) (ht : tn ≤ 10) (w : Int32)  : Cn yX9_oddsNow cX9_oddsNow 11 (some .int) 6 [.ref 30, .int (nI g), .int (nI tn), .int w] h (z_eq (some (.int (if w = 0 then oddA k s f n hr g tn else oddB k s f n hr g tn))) h) := by
  have hn8 := hM.2.2.2.1.1
  have hp8 := p8 hn8
  have hlt := hM.2.2.1
  have hol : (otN hr g) < 2 ^ n := dif_lt hlt
  have hpo : pop (otN hr g) = pop hr - 1 := by have := pop_dif hb (show g < 10 by omega); show pop (dif _ _) = _; omega
  have hab := abN_le (k := k) (s := s) (f := f) (n := n) (i := hr + 1) (show hr < 256 by omega) (show g < 8 by omega) ht (by omega)
  have htp : (10 ^ (pop hr - 1)) ≤ 10 ^ 7 := Nat.pow_le_pow_right (by decide) (by have := pop8 (show hr < 256 by omega); omega)
  have htp0 : 0 < (10 ^ (pop hr - 1)) := Nat.pow_pos (by decide)
  have gc0 : 0 < (Nat.gcd (abN k s f n hr g tn (hr + 1)) (10 ^ (pop hr - 1))) := Nat.gcd_pos_of_pos_right _ htp0
  have gcl : (Nat.gcd (abN k s f n hr g tn (hr + 1)) (10 ^ (pop hr - 1))) ≤ (10 ^ (pop hr - 1)) := Nat.gcd_le_right _ htp0
  have h107 : (10 : Nat) ^ 7 = 10000000 := by decide
  refine Cn.of (by decide) (Nat.le_of_ble_eq_true rfl) ?_
  refine Z.eqL (lv' := [(0, .ref 30), (1, .int (nI g)), (2, .int (nI tn)), (3, .int w)]) rfl ?_
  refine Z.aload_n (pc := 0) (i := 0) dX9_oddsNow_0 rfl rfl ?_
  refine Z.getIv (pc := 1) dX9_oddsNow_1 zf_X9_89 rfl rfl hM.2.1 ?_
  refine Z.iconst (pc := 4) (v := (nI 1)) dX9_oddsNow_4 (by decide) ?_
  refine Z.iload_n (pc := 5) (i := 1) dX9_oddsNow_5 rfl rfl ?_
  refine Z.ishl (pc := 6) dX9_oddsNow_6 ?_
  refine Z.top (nb_shl (by omega)) ?_
  refine Z.iconst (pc := 7) (v := (-1)) dX9_oddsNow_7 (by decide) ?_
  refine Z.ixor (pc := 8) dX9_oddsNow_8 ?_
  refine Z.iand (pc := 9) dX9_oddsNow_9 ?_
  refine Z.top ((nb_dif _ _).trans (show _ = nI (otN hr g) from rfl)) ?_
  refine Z.istore (pc := 10) (i := 4) dX9_oddsNow_10 (by decide) rfl ?_
  refine Z.iconst (pc := 12) (v := (nI 1)) dX9_oddsNow_12 (by decide) ?_
  refine Z.istore (pc := 13) (i := 5) dX9_oddsNow_13 (by decide) rfl ?_
  refine Z.iconst (pc := 15) (v := (nI 0)) dX9_oddsNow_15 (by decide) ?_
  refine Z.istore (pc := 16) (i := 6) dX9_oddsNow_16 (by decide) rfl ?_
  refine Z.iconst (pc := 18) (v := (nI 0)) dX9_oddsNow_18 (by decide) ?_
  refine Z.istore (pc := 19) (i := 7) dX9_oddsNow_19 (by decide) rfl ?_
  refine l_X9_oddPow hM g hg hb tn ht ?_ (pop (otN hr g)) 0 (by omega)
  refine Z.iconst (pc := 44) (v := (nI 0)) dX9_oddsNow_44 (by decide) ?_
  refine Z.istore (pc := 45) (i := 7) dX9_oddsNow_45 (by decide) rfl ?_
  refine l_X9_oddSum hM g hg hb tn ht ?_ ((otN hr g) + 1) 0 (by omega)
  rw [aw_ab hn8 hlt hb, hpo]
  refine Z.iload (pc := 156) (i := 6) dX9_oddsNow_156 rfl ?_
  refine Z.iload (pc := 158) (i := 5) dX9_oddsNow_158 rfl ?_
  refine Z.callSi (pc := 160) dX9_oddsNow_160 (c_X9_divisor _ _ (by omega) (by omega)) zm_X9_198 zs_X9_divisor rfl rfl (by decide) (by decide) (Nat.le_of_ble_eq_true rfl) ?_
  refine Z.istore (pc := 163) (i := 7) dX9_oddsNow_163 (by decide) rfl ?_
  refine Z.iload_n (pc := 165) (i := 3) dX9_oddsNow_165 rfl rfl ?_
  refine Z.if_ne (pc := 166) (tgt := 177) dX9_oddsNow_166 (by decide) (fun c166 => ?_) (fun c166 => ?_)
  · refine Z.iload (pc := 177) (i := 5) dX9_oddsNow_177 rfl ?_
    refine Z.iload (pc := 179) (i := 7) dX9_oddsNow_179 rfl ?_
    refine Z.idiv (pc := 181) dX9_oddsNow_181 (nI_ne0 gc0 (by omega)) ?_
    refine Z.top (pk_div (by omega) gc0 (by omega)) ?_
    refine Z.iret (pc := 182) (ty := .int) dX9_oddsNow_182 rfl rfl ?_
    first | exact ⟨by rw [if_pos c166]; rfl, rfl⟩ | exact ⟨by rw [if_neg c166]; rfl, rfl⟩
  · refine Z.iload (pc := 169) (i := 6) dX9_oddsNow_169 rfl ?_
    refine Z.iload (pc := 171) (i := 7) dX9_oddsNow_171 rfl ?_
    refine Z.idiv (pc := 173) dX9_oddsNow_173 (nI_ne0 gc0 (by omega)) ?_
    refine Z.top (pk_div (by omega) gc0 (by omega)) ?_
    refine Z.goto (pc := 174) (tgt := 182) dX9_oddsNow_174 (by decide) ?_
    refine Z.iret (pc := 182) (ty := .int) dX9_oddsNow_182 rfl rfl ?_
    first | exact ⟨by rw [if_pos c166]; rfl, rfl⟩ | exact ⟨by rw [if_neg c166]; rfl, rfl⟩
