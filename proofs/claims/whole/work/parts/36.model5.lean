set_option maxRecDepth 100000 in
set_option maxHeartbeats 400000 in
theorem c_X9_at {h : hp} {len : Nat} {pg : zF} (hP : Mp h len pg) (p : Nat) (hp : p < 2 ^ 31)  : Cn yX9_at cX9_at 2 (some .int) 0 [.ref 30, .int (nI p)] h (z_eq (some (.int (atI pg len p))) h) := by
  have hl := hP.2.2.1
  refine Cn.of (by decide) (Nat.le_of_ble_eq_true rfl) ?_
  refine Z.eqL (lv' := [(0, .ref 30), (1, .int (nI p))]) rfl ?_
  refine Z.iload_n (pc := 0) (i := 1) dX9_at_0 rfl rfl ?_
  refine Z.aload_n (pc := 1) (i := 0) dX9_at_1 rfl rfl ?_
  refine Z.getIv (pc := 2) dX9_at_2 zf_X9_54 rfl rfl hP.1 ?_
  refine Z.icmp_ge (pc := 5) (tgt := 17) dX9_at_5 (by decide) (fun c5 => ?_) (fun c5 => ?_)
  · have q : ¬ p < len := fun z => nI_ge z (by omega) c5
    refine Z.iconst (pc := 17) (v := (0)) dX9_at_17 (by decide) ?_
    refine Z.iret (pc := 18) (ty := .int) dX9_at_18 rfl rfl ?_
    first | exact ⟨by rw [at_t q], rfl⟩ | exact ⟨by rw [at_f q], rfl⟩
  · have q : p < len := by have : ¬ len ≤ p := fun z => c5 (nI_le z hp); omega
    refine Z.aload_n (pc := 8) (i := 0) dX9_at_8 rfl rfl ?_
    refine Z.getR (pc := 9) dX9_at_9 zf_X9_28 rfl rfl ?_
    refine Z.iload_n (pc := 12) (i := 1) dX9_at_12 rfl rfl ?_
    refine Z.bald (pc := 13) dX9_at_13 rfl (by omega) (by decide) ?_
    refine Z.top (show _ = pg p from congrFun hP.2.1 p) ?_
    refine Z.goto (pc := 14) (tgt := 18) dX9_at_14 (by decide) ?_
    refine Z.iret (pc := 18) (ty := .int) dX9_at_18 rfl rfl ?_
    first | exact ⟨by rw [at_t q], rfl⟩ | exact ⟨by rw [at_f q], rfl⟩
set_option maxRecDepth 100000 in
set_option maxHeartbeats 400000 in
theorem c_X9_kindBy_99 {h : hp}  : Cn yX9_kindBy cX9_kindBy 1 (some .int) 0 [.int (nI 99)] h (z_eq (some (.int (kofI (nI 99)))) h) := by
  refine Cn.of (by decide) (Nat.le_of_ble_eq_true rfl) ?_
  refine Z.eqL (lv' := [(0, .int (nI 99))]) rfl ?_
  refine Z.iload_n (pc := 0) (i := 0) dX9_kindBy_0 rfl rfl ?_
  refine Z.tableIn (pc := 1) (off := 73) (tgt := 74) dX9_kindBy_1 (by decide) (by decide) (by decide) (by decide) ?_
  refine Z.iconst (pc := 74) (v := (1)) dX9_kindBy_74 (by decide) ?_
  refine Z.iret (pc := 75) (ty := .int) dX9_kindBy_75 rfl rfl ?_
  exact ⟨congrArg (fun x => some (Value.int x)) (by decide), rfl⟩
set_option maxRecDepth 100000 in
set_option maxHeartbeats 400000 in
theorem c_X9_kindBy_100 {h : hp}  : Cn yX9_kindBy cX9_kindBy 1 (some .int) 0 [.int (nI 100)] h (z_eq (some (.int (kofI (nI 100)))) h) := by
  refine Cn.of (by decide) (Nat.le_of_ble_eq_true rfl) ?_
  refine Z.eqL (lv' := [(0, .int (nI 100))]) rfl ?_
  refine Z.iload_n (pc := 0) (i := 0) dX9_kindBy_0 rfl rfl ?_
  refine Z.tableIn (pc := 1) (off := 81) (tgt := 82) dX9_kindBy_1 (by decide) (by decide) (by decide) (by decide) ?_
  refine Z.iconst (pc := 82) (v := (-1)) dX9_kindBy_82 (by decide) ?_
  refine Z.iret (pc := 83) (ty := .int) dX9_kindBy_83 rfl rfl ?_
  exact ⟨congrArg (fun x => some (Value.int x)) (by decide), rfl⟩
set_option maxRecDepth 100000 in
set_option maxHeartbeats 400000 in
theorem c_X9_kindBy_101 {h : hp}  : Cn yX9_kindBy cX9_kindBy 1 (some .int) 0 [.int (nI 101)] h (z_eq (some (.int (kofI (nI 101)))) h) := by
  refine Cn.of (by decide) (Nat.le_of_ble_eq_true rfl) ?_
  refine Z.eqL (lv' := [(0, .int (nI 101))]) rfl ?_
  refine Z.iload_n (pc := 0) (i := 0) dX9_kindBy_0 rfl rfl ?_
  refine Z.tableIn (pc := 1) (off := 81) (tgt := 82) dX9_kindBy_1 (by decide) (by decide) (by decide) (by decide) ?_
  refine Z.iconst (pc := 82) (v := (-1)) dX9_kindBy_82 (by decide) ?_
  refine Z.iret (pc := 83) (ty := .int) dX9_kindBy_83 rfl rfl ?_
  exact ⟨congrArg (fun x => some (Value.int x)) (by decide), rfl⟩
set_option maxRecDepth 100000 in
set_option maxHeartbeats 400000 in
theorem c_X9_kindBy_102 {h : hp}  : Cn yX9_kindBy cX9_kindBy 1 (some .int) 0 [.int (nI 102)] h (z_eq (some (.int (kofI (nI 102)))) h) := by
  refine Cn.of (by decide) (Nat.le_of_ble_eq_true rfl) ?_
  refine Z.eqL (lv' := [(0, .int (nI 102))]) rfl ?_
  refine Z.iload_n (pc := 0) (i := 0) dX9_kindBy_0 rfl rfl ?_
  refine Z.tableIn (pc := 1) (off := 81) (tgt := 82) dX9_kindBy_1 (by decide) (by decide) (by decide) (by decide) ?_
  refine Z.iconst (pc := 82) (v := (-1)) dX9_kindBy_82 (by decide) ?_
  refine Z.iret (pc := 83) (ty := .int) dX9_kindBy_83 rfl rfl ?_
  exact ⟨congrArg (fun x => some (Value.int x)) (by decide), rfl⟩
set_option maxRecDepth 100000 in
set_option maxHeartbeats 400000 in
theorem c_X9_kindBy_103 {h : hp}  : Cn yX9_kindBy cX9_kindBy 1 (some .int) 0 [.int (nI 103)] h (z_eq (some (.int (kofI (nI 103)))) h) := by
  refine Cn.of (by decide) (Nat.le_of_ble_eq_true rfl) ?_
  refine Z.eqL (lv' := [(0, .int (nI 103))]) rfl ?_
  refine Z.iload_n (pc := 0) (i := 0) dX9_kindBy_0 rfl rfl ?_
  refine Z.tableIn (pc := 1) (off := 71) (tgt := 72) dX9_kindBy_1 (by decide) (by decide) (by decide) (by decide) ?_
  refine Z.iconst (pc := 72) (v := (0)) dX9_kindBy_72 (by decide) ?_
  refine Z.iret (pc := 73) (ty := .int) dX9_kindBy_73 rfl rfl ?_
  exact ⟨congrArg (fun x => some (Value.int x)) (by decide), rfl⟩
set_option maxRecDepth 100000 in
set_option maxHeartbeats 400000 in
theorem c_X9_kindBy_104 {h : hp}  : Cn yX9_kindBy cX9_kindBy 1 (some .int) 0 [.int (nI 104)] h (z_eq (some (.int (kofI (nI 104)))) h) := by
  refine Cn.of (by decide) (Nat.le_of_ble_eq_true rfl) ?_
  refine Z.eqL (lv' := [(0, .int (nI 104))]) rfl ?_
  refine Z.iload_n (pc := 0) (i := 0) dX9_kindBy_0 rfl rfl ?_
  refine Z.tableIn (pc := 1) (off := 75) (tgt := 76) dX9_kindBy_1 (by decide) (by decide) (by decide) (by decide) ?_
  refine Z.iconst (pc := 76) (v := (2)) dX9_kindBy_76 (by decide) ?_
  refine Z.iret (pc := 77) (ty := .int) dX9_kindBy_77 rfl rfl ?_
  exact ⟨congrArg (fun x => some (Value.int x)) (by decide), rfl⟩
set_option maxRecDepth 100000 in
set_option maxHeartbeats 400000 in
theorem c_X9_kindBy_105 {h : hp}  : Cn yX9_kindBy cX9_kindBy 1 (some .int) 0 [.int (nI 105)] h (z_eq (some (.int (kofI (nI 105)))) h) := by
  refine Cn.of (by decide) (Nat.le_of_ble_eq_true rfl) ?_
  refine Z.eqL (lv' := [(0, .int (nI 105))]) rfl ?_
  refine Z.iload_n (pc := 0) (i := 0) dX9_kindBy_0 rfl rfl ?_
  refine Z.tableIn (pc := 1) (off := 81) (tgt := 82) dX9_kindBy_1 (by decide) (by decide) (by decide) (by decide) ?_
  refine Z.iconst (pc := 82) (v := (-1)) dX9_kindBy_82 (by decide) ?_
  refine Z.iret (pc := 83) (ty := .int) dX9_kindBy_83 rfl rfl ?_
  exact ⟨congrArg (fun x => some (Value.int x)) (by decide), rfl⟩
set_option maxRecDepth 100000 in
set_option maxHeartbeats 400000 in
theorem c_X9_kindBy_106 {h : hp}  : Cn yX9_kindBy cX9_kindBy 1 (some .int) 0 [.int (nI 106)] h (z_eq (some (.int (kofI (nI 106)))) h) := by
  refine Cn.of (by decide) (Nat.le_of_ble_eq_true rfl) ?_
  refine Z.eqL (lv' := [(0, .int (nI 106))]) rfl ?_
  refine Z.iload_n (pc := 0) (i := 0) dX9_kindBy_0 rfl rfl ?_
  refine Z.tableIn (pc := 1) (off := 81) (tgt := 82) dX9_kindBy_1 (by decide) (by decide) (by decide) (by decide) ?_
  refine Z.iconst (pc := 82) (v := (-1)) dX9_kindBy_82 (by decide) ?_
  refine Z.iret (pc := 83) (ty := .int) dX9_kindBy_83 rfl rfl ?_
  exact ⟨congrArg (fun x => some (Value.int x)) (by decide), rfl⟩
set_option maxRecDepth 100000 in
set_option maxHeartbeats 400000 in
theorem c_X9_kindBy_107 {h : hp}  : Cn yX9_kindBy cX9_kindBy 1 (some .int) 0 [.int (nI 107)] h (z_eq (some (.int (kofI (nI 107)))) h) := by
  refine Cn.of (by decide) (Nat.le_of_ble_eq_true rfl) ?_
  refine Z.eqL (lv' := [(0, .int (nI 107))]) rfl ?_
  refine Z.iload_n (pc := 0) (i := 0) dX9_kindBy_0 rfl rfl ?_
  refine Z.tableIn (pc := 1) (off := 79) (tgt := 80) dX9_kindBy_1 (by decide) (by decide) (by decide) (by decide) ?_
  refine Z.iconst (pc := 80) (v := (4)) dX9_kindBy_80 (by decide) ?_
  refine Z.iret (pc := 81) (ty := .int) dX9_kindBy_81 rfl rfl ?_
  exact ⟨congrArg (fun x => some (Value.int x)) (by decide), rfl⟩
set_option maxRecDepth 100000 in
set_option maxHeartbeats 400000 in
theorem c_X9_kindBy_108 {h : hp}  : Cn yX9_kindBy cX9_kindBy 1 (some .int) 0 [.int (nI 108)] h (z_eq (some (.int (kofI (nI 108)))) h) := by
  refine Cn.of (by decide) (Nat.le_of_ble_eq_true rfl) ?_
  refine Z.eqL (lv' := [(0, .int (nI 108))]) rfl ?_
  refine Z.iload_n (pc := 0) (i := 0) dX9_kindBy_0 rfl rfl ?_
  refine Z.tableIn (pc := 1) (off := 81) (tgt := 82) dX9_kindBy_1 (by decide) (by decide) (by decide) (by decide) ?_
  refine Z.iconst (pc := 82) (v := (-1)) dX9_kindBy_82 (by decide) ?_
  refine Z.iret (pc := 83) (ty := .int) dX9_kindBy_83 rfl rfl ?_
  exact ⟨congrArg (fun x => some (Value.int x)) (by decide), rfl⟩
set_option maxRecDepth 100000 in
set_option maxHeartbeats 400000 in
theorem c_X9_kindBy_109 {h : hp}  : Cn yX9_kindBy cX9_kindBy 1 (some .int) 0 [.int (nI 109)] h (z_eq (some (.int (kofI (nI 109)))) h) := by
  refine Cn.of (by decide) (Nat.le_of_ble_eq_true rfl) ?_
  refine Z.eqL (lv' := [(0, .int (nI 109))]) rfl ?_
  refine Z.iload_n (pc := 0) (i := 0) dX9_kindBy_0 rfl rfl ?_
  refine Z.tableIn (pc := 1) (off := 81) (tgt := 82) dX9_kindBy_1 (by decide) (by decide) (by decide) (by decide) ?_
  refine Z.iconst (pc := 82) (v := (-1)) dX9_kindBy_82 (by decide) ?_
  refine Z.iret (pc := 83) (ty := .int) dX9_kindBy_83 rfl rfl ?_
  exact ⟨congrArg (fun x => some (Value.int x)) (by decide), rfl⟩
set_option maxRecDepth 100000 in
set_option maxHeartbeats 400000 in
theorem c_X9_kindBy_110 {h : hp}  : Cn yX9_kindBy cX9_kindBy 1 (some .int) 0 [.int (nI 110)] h (z_eq (some (.int (kofI (nI 110)))) h) := by
  refine Cn.of (by decide) (Nat.le_of_ble_eq_true rfl) ?_
  refine Z.eqL (lv' := [(0, .int (nI 110))]) rfl ?_
  refine Z.iload_n (pc := 0) (i := 0) dX9_kindBy_0 rfl rfl ?_
  refine Z.tableIn (pc := 1) (off := 81) (tgt := 82) dX9_kindBy_1 (by decide) (by decide) (by decide) (by decide) ?_
  refine Z.iconst (pc := 82) (v := (-1)) dX9_kindBy_82 (by decide) ?_
  refine Z.iret (pc := 83) (ty := .int) dX9_kindBy_83 rfl rfl ?_
  exact ⟨congrArg (fun x => some (Value.int x)) (by decide), rfl⟩
set_option maxRecDepth 100000 in
set_option maxHeartbeats 400000 in
theorem c_X9_kindBy_111 {h : hp}  : Cn yX9_kindBy cX9_kindBy 1 (some .int) 0 [.int (nI 111)] h (z_eq (some (.int (kofI (nI 111)))) h) := by
  refine Cn.of (by decide) (Nat.le_of_ble_eq_true rfl) ?_
  refine Z.eqL (lv' := [(0, .int (nI 111))]) rfl ?_
  refine Z.iload_n (pc := 0) (i := 0) dX9_kindBy_0 rfl rfl ?_
  refine Z.tableIn (pc := 1) (off := 81) (tgt := 82) dX9_kindBy_1 (by decide) (by decide) (by decide) (by decide) ?_
  refine Z.iconst (pc := 82) (v := (-1)) dX9_kindBy_82 (by decide) ?_
  refine Z.iret (pc := 83) (ty := .int) dX9_kindBy_83 rfl rfl ?_
  exact ⟨congrArg (fun x => some (Value.int x)) (by decide), rfl⟩
set_option maxRecDepth 100000 in
set_option maxHeartbeats 400000 in
theorem c_X9_kindBy_112 {h : hp}  : Cn yX9_kindBy cX9_kindBy 1 (some .int) 0 [.int (nI 112)] h (z_eq (some (.int (kofI (nI 112)))) h) := by
  refine Cn.of (by decide) (Nat.le_of_ble_eq_true rfl) ?_
  refine Z.eqL (lv' := [(0, .int (nI 112))]) rfl ?_
  refine Z.iload_n (pc := 0) (i := 0) dX9_kindBy_0 rfl rfl ?_
  refine Z.tableIn (pc := 1) (off := 77) (tgt := 78) dX9_kindBy_1 (by decide) (by decide) (by decide) (by decide) ?_
  refine Z.iconst (pc := 78) (v := (3)) dX9_kindBy_78 (by decide) ?_
  refine Z.iret (pc := 79) (ty := .int) dX9_kindBy_79 rfl rfl ?_
  exact ⟨congrArg (fun x => some (Value.int x)) (by decide), rfl⟩
set_option maxRecDepth 100000 in
set_option maxHeartbeats 400000 in
theorem c_X9_kindBy_out {h : hp} (c : Int32) (q : c.toInt < 99 ∨ 112 < c.toInt)  : Cn yX9_kindBy cX9_kindBy 1 (some .int) 0 [.int c] h (z_eq (some (.int (kofI c))) h) := by
  refine Cn.of (by decide) (Nat.le_of_ble_eq_true rfl) ?_
  refine Z.eqL (lv' := [(0, .int c)]) rfl ?_
  refine Z.iload_n (pc := 0) (i := 0) dX9_kindBy_0 rfl rfl ?_
  refine Z.tableOut (pc := 1) (tgt := 82) dX9_kindBy_1 q (by decide) ?_
  refine Z.iconst (pc := 82) (v := (-1)) dX9_kindBy_82 (by decide) ?_
  refine Z.iret (pc := 83) (ty := .int) dX9_kindBy_83 rfl rfl ?_
  exact ⟨by rw [kof_out q], rfl⟩
theorem c_X9_kindBy {h : hp} (c : Int32) : Cn yX9_kindBy cX9_kindBy 1 (some .int) 0 [.int c] h (z_eq (some (.int (kofI c))) h) := by
  by_cases q : c.toInt < 99 ∨ 112 < c.toInt
  · exact c_X9_kindBy_out c q
  · obtain ⟨j, hj, rfl⟩ := nI_of (x := c) (fun z => by rw [Int32.lt_iff_toInt_lt] at z; have e0 : (0 : Int32).toInt = 0 := rfl; omega)
    rw [nI_toInt hj] at q
    rcases (show j = 99 ∨ j = 100 ∨ j = 101 ∨ j = 102 ∨ j = 103 ∨ j = 104 ∨ j = 105 ∨ j = 106 ∨ j = 107 ∨ j = 108 ∨ j = 109 ∨ j = 110 ∨ j = 111 ∨ j = 112 by omega) with rfl | rfl | rfl | rfl | rfl | rfl | rfl | rfl | rfl | rfl | rfl | rfl | rfl | rfl
    · exact c_X9_kindBy_99
    · exact c_X9_kindBy_100
    · exact c_X9_kindBy_101
    · exact c_X9_kindBy_102
    · exact c_X9_kindBy_103
    · exact c_X9_kindBy_104
    · exact c_X9_kindBy_105
    · exact c_X9_kindBy_106
    · exact c_X9_kindBy_107
    · exact c_X9_kindBy_108
    · exact c_X9_kindBy_109
    · exact c_X9_kindBy_110
    · exact c_X9_kindBy_111
    · exact c_X9_kindBy_112
set_option maxRecDepth 100000 in
set_option maxHeartbeats 400000 in
theorem c_X9_isFigure {h : hp} {len : Nat} {pg : zF} (hP : Mp h len pg) (p b : Nat) (hp : p < 2 ^ 31) (hb : b ≤ 10)  : Cn yX9_isFigure cX9_isFigure 3 (some .boolean) 1 [.ref 30, .int (nI p), .int (nI b - 1)] h (z_eq (some (.int (zb (decide (p < len) && digB (pg p) (nI b))))) h) := by
  refine Cn.of (by decide) (Nat.le_of_ble_eq_true rfl) ?_
  refine Z.eqL (lv' := [(0, .ref 30), (1, .int (nI p)), (2, .int (nI b - 1))]) rfl ?_
  refine Z.aload_n (pc := 0) (i := 0) dX9_isFigure_0 rfl rfl ?_
  refine Z.iload_n (pc := 1) (i := 1) dX9_isFigure_1 rfl rfl ?_
  refine Z.callVi (pc := 2) dX9_isFigure_2 (c_X9_at hP p hp) zm_X9_58 zv_X9_at rfl rfl rfl rfl (by decide) (by decide) (Nat.le_of_ble_eq_true rfl) ?_
  refine Z.bipush (pc := 5) (v := (48)) dX9_isFigure_5 (by decide) ?_
  refine Z.isub (pc := 7) dX9_isFigure_7 ?_
  refine Z.iconst (pc := 8) (v := (0)) dX9_isFigure_8 (by decide) ?_
  refine Z.iload_n (pc := 9) (i := 2) dX9_isFigure_9 rfl rfl ?_
  refine Z.callSi (pc := 10) dX9_isFigure_10 (c_X9_within _ _ _) zm_X9_50 zs_X9_within rfl rfl (by decide) (by decide) (Nat.le_of_ble_eq_true rfl) ?_
  rw [fig_eq hP.2.2.2 hb]
  refine Z.iret (pc := 13) (ty := .boolean) dX9_isFigure_13 rfl (by first | rfl | exact zb_nar _) ?_
  exact ⟨rfl, rfl⟩
set_option maxRecDepth 100000 in
set_option maxHeartbeats 400000 in
theorem c_X9_readGuest {h : hp} {len : Nat} {pg : zF} (hP : Mp h len pg) (g : Nat) (hg : g < 8) (hN : h.1 30 15 = nI g)  : Cn yX9_readGuest cX9_readGuest 2 (some .int) 2 [.ref 30, .int (nI (3 + 4 * g))] h (z_eq (some (.int (nI (rgN pg len g)))) h) := by
  refine Cn.of (by decide) (Nat.le_of_ble_eq_true rfl) ?_
  refine Z.eqL (lv' := [(0, .ref 30), (1, .int (nI (3 + 4 * g)))]) rfl ?_
  refine Z.aload_n (pc := 0) (i := 0) dX9_readGuest_0 rfl rfl ?_
  refine Z.iload_n (pc := 1) (i := 1) dX9_readGuest_1 rfl rfl ?_
  refine Z.callVi (pc := 2) dX9_readGuest_2 (c_X9_at hP _ (by omega)) zm_X9_58 zv_X9_at rfl rfl rfl rfl (by decide) (by decide) (Nat.le_of_ble_eq_true rfl) ?_
  refine Z.callSi (pc := 5) dX9_readGuest_5 (c_X9_kindBy _) zm_X9_62 zs_X9_kindBy rfl rfl (by decide) (by decide) (Nat.le_of_ble_eq_true rfl) ?_
  refine Z.iconst (pc := 8) (v := (-1)) dX9_readGuest_8 (by decide) ?_
  refine Z.icmp_ne (pc := 9) (tgt := 14) dX9_readGuest_9 (by decide) (fun c9 => ?_) (fun c9 => ?_)
  · have q0 : fxB pg len (3 + 4 * g) = true := by rw [fx_0 hg, decide_eq_false c9]; rfl
    refine Z.aload_n (pc := 14) (i := 0) dX9_readGuest_14 rfl rfl ?_
    refine Z.iload_n (pc := 15) (i := 1) dX9_readGuest_15 rfl rfl ?_
    refine Z.iconst (pc := 16) (v := (nI 1)) dX9_readGuest_16 (by decide) ?_
    refine Z.iadd (pc := 17) dX9_readGuest_17 ?_
    refine Z.top (show _ = nI (3 + 4 * g + 1) from nI_add _ 1) ?_
    refine Z.bipush (pc := 18) (v := (9)) dX9_readGuest_18 (by decide) ?_
    refine Z.top (show (9 : Int32) = nI 10 - 1 from rfl) ?_
    refine Z.callVi (pc := 20) dX9_readGuest_20 (c_X9_isFigure hP _ 10 (by omega) (by decide)) zm_X9_65 zv_X9_isFigure rfl rfl rfl rfl (by decide) (by decide) (Nat.le_of_ble_eq_true rfl) ?_
    rw [fx_1 hg]
    refine Z.if_ne_b (pc := 23) (tgt := 30) dX9_readGuest_23 (by decide) (fun c23 => ?_) (fun c23 => ?_)
    · refine Z.aload_n (pc := 30) (i := 0) dX9_readGuest_30 rfl rfl ?_
      refine Z.iload_n (pc := 31) (i := 1) dX9_readGuest_31 rfl rfl ?_
      refine Z.iconst (pc := 32) (v := (nI 2)) dX9_readGuest_32 (by decide) ?_
      refine Z.iadd (pc := 33) dX9_readGuest_33 ?_
      refine Z.top (show _ = nI (3 + 4 * g + 2) from nI_add _ 2) ?_
      refine Z.callVi (pc := 34) dX9_readGuest_34 (c_X9_at hP _ (by omega)) zm_X9_58 zv_X9_at rfl rfl rfl rfl (by decide) (by decide) (Nat.le_of_ble_eq_true rfl) ?_
      refine Z.bipush (pc := 37) (v := (45)) dX9_readGuest_37 (by decide) ?_
      refine Z.icmp_eq (pc := 39) (tgt := 58) dX9_readGuest_39 (by decide) (fun c39 => ?_) (fun c39 => ?_)
      · have q2 : fxB pg len (3 + 4 * g + 2) = true := by rw [fx_2 hg, decide_eq_true c39]; rfl
        have eR : rgN pg len g = 3 + 4 * g + 3 := by simp [rgN, q0, c23, q2]
        refine Z.iload_n (pc := 58) (i := 1) dX9_readGuest_58 rfl rfl ?_
        refine Z.iconst (pc := 59) (v := (nI 3)) dX9_readGuest_59 (by decide) ?_
        refine Z.iadd (pc := 60) dX9_readGuest_60 ?_
        refine Z.top (show _ = nI (3 + 4 * g + 3) from nI_add _ 3) ?_
        refine Z.goto (pc := 61) (tgt := 67) dX9_readGuest_61 (by decide) ?_
        refine Z.iret (pc := 67) (ty := .int) dX9_readGuest_67 rfl rfl ?_
        exact ⟨by rw [eR], rfl⟩
      · refine Z.aload_n (pc := 42) (i := 0) dX9_readGuest_42 rfl rfl ?_
        refine Z.iload_n (pc := 43) (i := 1) dX9_readGuest_43 rfl rfl ?_
        refine Z.iconst (pc := 44) (v := (nI 2)) dX9_readGuest_44 (by decide) ?_
        refine Z.iadd (pc := 45) dX9_readGuest_45 ?_
        refine Z.top (show _ = nI (3 + 4 * g + 2) from nI_add _ 2) ?_
        refine Z.aload_n (pc := 46) (i := 0) dX9_readGuest_46 rfl rfl ?_
        refine Z.getIv (pc := 47) dX9_readGuest_47 zf_X9_69 rfl rfl hN ?_
        refine Z.iconst (pc := 50) (v := (1)) dX9_readGuest_50 (by decide) ?_
        refine Z.isub (pc := 51) dX9_readGuest_51 ?_
        refine Z.callVi (pc := 52) dX9_readGuest_52 (c_X9_isFigure hP _ g (by omega) (by omega)) zm_X9_65 zv_X9_isFigure rfl rfl rfl rfl (by decide) (by decide) (Nat.le_of_ble_eq_true rfl) ?_
        refine Z.if_eq_b (pc := 55) (tgt := 64) dX9_readGuest_55 (by decide) (fun c55 => ?_) (fun c55 => ?_)
        · have q2 : fxB pg len (3 + 4 * g + 2) = false := by rw [fx_2 hg, decide_eq_false c39, c55]; rfl
          have eR : rgN pg len g = 3 + 4 * g + 2 := by simp [rgN, q0, c23, q2]
          refine Z.iload_n (pc := 64) (i := 1) dX9_readGuest_64 rfl rfl ?_
          refine Z.iconst (pc := 65) (v := (nI 2)) dX9_readGuest_65 (by decide) ?_
          refine Z.iadd (pc := 66) dX9_readGuest_66 ?_
          refine Z.top (show _ = nI (3 + 4 * g + 2) from nI_add _ 2) ?_
          refine Z.iret (pc := 67) (ty := .int) dX9_readGuest_67 rfl rfl ?_
          exact ⟨by rw [eR], rfl⟩
        · have q2 : fxB pg len (3 + 4 * g + 2) = true := by rw [fx_2 hg, c55]; simp
          have eR : rgN pg len g = 3 + 4 * g + 3 := by simp [rgN, q0, c23, q2]
          refine Z.iload_n (pc := 58) (i := 1) dX9_readGuest_58 rfl rfl ?_
          refine Z.iconst (pc := 59) (v := (nI 3)) dX9_readGuest_59 (by decide) ?_
          refine Z.iadd (pc := 60) dX9_readGuest_60 ?_
          refine Z.top (show _ = nI (3 + 4 * g + 3) from nI_add _ 3) ?_
          refine Z.goto (pc := 61) (tgt := 67) dX9_readGuest_61 (by decide) ?_
          refine Z.iret (pc := 67) (ty := .int) dX9_readGuest_67 rfl rfl ?_
          exact ⟨by rw [eR], rfl⟩
    · have eR : rgN pg len g = 3 + 4 * g + 1 := by simp [rgN, q0, c23]
      refine Z.iload_n (pc := 26) (i := 1) dX9_readGuest_26 rfl rfl ?_
      refine Z.iconst (pc := 27) (v := (nI 1)) dX9_readGuest_27 (by decide) ?_
      refine Z.iadd (pc := 28) dX9_readGuest_28 ?_
      refine Z.top (show _ = nI (3 + 4 * g + 1) from nI_add _ 1) ?_
      refine Z.iret (pc := 29) (ty := .int) dX9_readGuest_29 rfl rfl ?_
      exact ⟨by rw [eR], rfl⟩
  · have q0 : fxB pg len (3 + 4 * g) = false := by rw [fx_0 hg, decide_eq_true c9]; rfl
    have eR : rgN pg len g = 3 + 4 * g := by simp [rgN, q0]
    refine Z.iload_n (pc := 12) (i := 1) dX9_readGuest_12 rfl rfl ?_
    refine Z.iret (pc := 13) (ty := .int) dX9_readGuest_13 rfl rfl ?_
    exact ⟨by rw [eR], rfl⟩
set_option maxRecDepth 100000 in
set_option maxHeartbeats 400000 in
theorem l_X9_read {h : hp} {len : Nat} {pg : zF} (hP : Mp h len pg) : ∀ (r g : Nat), g + r = 8 → g < 8 → (∀ q, q < 3 + 4 * g → fxB pg len q = true) → Z yX9_read cX9_read 3 (some .int) 3 (KRd h len pg) 48 [(0, .ref 30), (1, .int (nI (3 + 4 * g)))] [] (rdM h false g) := by
  intro r
  induction r with
  | zero => intro g h0 h1; omega
  | succ r ih =>
    intro g hi hg hx
    refine Z.aload_n (pc := 48) (i := 0) dX9_read_48 rfl rfl ?_
    refine Z.getIv (pc := 49) dX9_read_49 zf_X9_69 rfl rfl rd_15 ?_
    refine Z.bipush (pc := 52) (v := (nI 8)) dX9_read_52 (by decide) ?_
    refine Z.icmp_ge_f (pc := 54) (tgt := 136) dX9_read_54 (by decide) (nI_ge (by omega) (by decide)) ?_
    refine Z.aload_n (pc := 57) (i := 0) dX9_read_57 rfl rfl ?_
    refine Z.iload_n (pc := 58) (i := 1) dX9_read_58 rfl rfl ?_
    refine Z.callVi (pc := 59) dX9_read_59 (c_X9_readGuest (Mp_rd hP) g hg rd_15) zm_X9_76 zv_X9_readGuest rfl rfl rfl rfl (by decide) (by decide) (Nat.le_of_ble_eq_true rfl) ?_
    refine Z.istore_n (pc := 62) (i := 2) dX9_read_62 rfl (by decide) rfl ?_
    refine Z.iload_n (pc := 63) (i := 2) dX9_read_63 rfl rfl ?_
    refine Z.iload_n (pc := 64) (i := 1) dX9_read_64 rfl rfl ?_
    refine Z.iconst (pc := 65) (v := (nI 3)) dX9_read_65 (by decide) ?_
    refine Z.iadd (pc := 66) dX9_read_66 ?_
    refine Z.top (show _ = nI (3 + 4 * g + 3) from nI_add _ 3) ?_
    refine Z.icmp_eq (pc := 67) (tgt := 72) dX9_read_67 (by decide) (fun c67 => ?_) (fun c67 => ?_)
    · have q := (nI_eq (rg_lt hg) (by omega)).mp c67
      have hx2 := rg_yes hx q
      refine Z.aload_n (pc := 72) (i := 0) dX9_read_72 rfl rfl ?_
      refine Z.dup (pc := 73) dX9_read_73 rfl ?_
      refine Z.getIv (pc := 74) dX9_read_74 zf_X9_69 rfl rfl rd_15 ?_
      refine Z.iconst (pc := 77) (v := (nI 1)) dX9_read_77 (by decide) ?_
      refine Z.iadd (pc := 78) dX9_read_78 ?_
      refine Z.top (nI_add g 1) ?_
      refine Z.putI (pc := 79) dX9_read_79 zp_X9_69 rfl rfl rfl rfl ?_
      rw [rd_up]
      refine Z.iload_n (pc := 82) (i := 2) dX9_read_82 rfl rfl ?_
      refine Z.top (congrArg nI q) ?_
      refine Z.istore_n (pc := 83) (i := 1) dX9_read_83 rfl (by decide) rfl ?_
      refine Z.aload_n (pc := 84) (i := 0) dX9_read_84 rfl rfl ?_
      refine Z.iload_n (pc := 85) (i := 1) dX9_read_85 rfl rfl ?_
      refine Z.aload_n (pc := 86) (i := 0) dX9_read_86 rfl rfl ?_
      refine Z.getIv (pc := 87) dX9_read_87 zf_X9_54 rfl rfl (Mp_rd hP).1 ?_
      refine Z.icmp_ne (pc := 90) (tgt := 105) dX9_read_90 (by decide) (fun c90 => ?_) (fun c90 => ?_)
      · have eW := wl_f1 (len := len) (g := g) (fun z => c90 (congrArg nI z))
        refine Z.iconst (pc := 105) (v := (0)) dX9_read_105 (by decide) ?_
        refine Z.putI (pc := 106) dX9_read_106 zp_X9_72 rfl rfl rfl rfl ?_
        rw [rd_14 eW]
        refine Z.aload_n (pc := 109) (i := 0) dX9_read_109 rfl rfl ?_
        refine Z.getIv (pc := 110) dX9_read_110 zf_X9_69 rfl rfl rd_15 ?_
        refine Z.bipush (pc := 113) (v := (nI 8)) dX9_read_113 (by decide) ?_
        refine Z.icmp_eq (pc := 115) (tgt := 128) dX9_read_115 (by decide) (fun c115 => ?_) (fun c115 => ?_)
        · have q3 : fxB pg len (3 + 4 * g + 3) = false := by rw [fx_3 hg, decide_eq_false (show ¬ g < 7 by have := (nI_eq (by omega) (by decide)).mp c115; omega), Bool.and_false]
          refine Z.iload_n (pc := 128) (i := 1) dX9_read_128 rfl rfl ?_
          refine Z.iret (pc := 129) (ty := .int) dX9_read_129 rfl rfl ?_
          exact krd (ff_hit hx2 q3) (isP_w (ff_hit hx2 q3)) wl_y
        · have g7 : g < 7 := by have : ¬ g + 1 = 8 := fun z => c115 (congrArg nI z); omega
          refine Z.aload_n (pc := 118) (i := 0) dX9_read_118 rfl rfl ?_
          refine Z.iload_n (pc := 119) (i := 1) dX9_read_119 rfl rfl ?_
          refine Z.callVi (pc := 120) dX9_read_120 (c_X9_at (Mp_rd hP) _ (by omega)) zm_X9_58 zv_X9_at rfl rfl rfl rfl (by decide) (by decide) (Nat.le_of_ble_eq_true rfl) ?_
          refine Z.bipush (pc := 123) (v := (44)) dX9_read_123 (by decide) ?_
          refine Z.icmp_eq (pc := 125) (tgt := 130) dX9_read_125 (by decide) (fun c125 => ?_) (fun c125 => ?_)
          · have q4 : fxB pg len (3 + 4 * g + 3) = true := by rw [fx_3 hg, decide_eq_true c125, decide_eq_true g7]; rfl
            rw [wl_no (fx_lt q4)]
            have hx3 : ∀ q, q < 3 + 4 * (g + 1) → fxB pg len q = true := fun q hq => by
              by_cases e : q = 3 + 4 * g + 3
              · subst e; exact q4
              · exact hx2 q (by omega)
            refine Z.iinc (pc := 130) (i := 1) (v := (nI (3 + 4 * (g + 1)))) dX9_read_130 rfl (by exact (ii_1 _).trans (congrArg nI (by omega))) (by decide) rfl ?_
            refine Z.goto (pc := 133) (tgt := 48) dX9_read_133 (by decide) ?_
            refine Z.drop 2 ?_
            exact ih (g + 1) (by omega) (by omega) hx3
          · have q3 : fxB pg len (3 + 4 * g + 3) = false := by rw [fx_3 hg, decide_eq_false c125]; rfl
            refine Z.iload_n (pc := 128) (i := 1) dX9_read_128 rfl rfl ?_
            refine Z.iret (pc := 129) (ty := .int) dX9_read_129 rfl rfl ?_
            exact krd (ff_hit hx2 q3) (isP_w (ff_hit hx2 q3)) wl_y
      · have qL : 3 + 4 * g + 3 = len := (nI_eq (by omega) (by have := hP.2.2.1; omega)).mp c90
        refine Z.aload_n (pc := 93) (i := 0) dX9_read_93 rfl rfl ?_
        refine Z.getIv (pc := 94) dX9_read_94 zf_X9_69 rfl rfl rd_15 ?_
        refine Z.iconst (pc := 97) (v := (nI 1)) dX9_read_97 (by decide) ?_
        refine Z.icmp_le (pc := 98) (tgt := 105) dX9_read_98 (by decide) (fun c98 => ?_) (fun c98 => ?_)
        · have eW := wl_f2 (len := len) (g := g) (fun z => nI_ge z (by omega) c98)
          refine Z.iconst (pc := 105) (v := (0)) dX9_read_105 (by decide) ?_
          refine Z.putI (pc := 106) dX9_read_106 zp_X9_72 rfl rfl rfl rfl ?_
          rw [rd_14 eW]
          refine Z.aload_n (pc := 109) (i := 0) dX9_read_109 rfl rfl ?_
          refine Z.getIv (pc := 110) dX9_read_110 zf_X9_69 rfl rfl rd_15 ?_
          refine Z.bipush (pc := 113) (v := (nI 8)) dX9_read_113 (by decide) ?_
          refine Z.icmp_eq (pc := 115) (tgt := 128) dX9_read_115 (by decide) (fun c115 => ?_) (fun c115 => ?_)
          · have q3 : fxB pg len (3 + 4 * g + 3) = false := by rw [fx_3 hg, decide_eq_false (show ¬ g < 7 by have := (nI_eq (by omega) (by decide)).mp c115; omega), Bool.and_false]
            refine Z.iload_n (pc := 128) (i := 1) dX9_read_128 rfl rfl ?_
            refine Z.iret (pc := 129) (ty := .int) dX9_read_129 rfl rfl ?_
            exact krd (ff_hit hx2 q3) (isP_w (ff_hit hx2 q3)) wl_y
          · have g7 : g < 7 := by have : ¬ g + 1 = 8 := fun z => c115 (congrArg nI z); omega
            refine Z.aload_n (pc := 118) (i := 0) dX9_read_118 rfl rfl ?_
            refine Z.iload_n (pc := 119) (i := 1) dX9_read_119 rfl rfl ?_
            refine Z.callVi (pc := 120) dX9_read_120 (c_X9_at (Mp_rd hP) _ (by omega)) zm_X9_58 zv_X9_at rfl rfl rfl rfl (by decide) (by decide) (Nat.le_of_ble_eq_true rfl) ?_
            refine Z.bipush (pc := 123) (v := (44)) dX9_read_123 (by decide) ?_
            refine Z.icmp_eq (pc := 125) (tgt := 130) dX9_read_125 (by decide) (fun c125 => ?_) (fun c125 => ?_)
            · have q4 : fxB pg len (3 + 4 * g + 3) = true := by rw [fx_3 hg, decide_eq_true c125, decide_eq_true g7]; rfl
              rw [wl_no (fx_lt q4)]
              have hx3 : ∀ q, q < 3 + 4 * (g + 1) → fxB pg len q = true := fun q hq => by
                by_cases e : q = 3 + 4 * g + 3
                · subst e; exact q4
                · exact hx2 q (by omega)
              refine Z.iinc (pc := 130) (i := 1) (v := (nI (3 + 4 * (g + 1)))) dX9_read_130 rfl (by exact (ii_1 _).trans (congrArg nI (by omega))) (by decide) rfl ?_
              refine Z.goto (pc := 133) (tgt := 48) dX9_read_133 (by decide) ?_
              refine Z.drop 2 ?_
              exact ih (g + 1) (by omega) (by omega) hx3
            · have q3 : fxB pg len (3 + 4 * g + 3) = false := by rw [fx_3 hg, decide_eq_false c125]; rfl
              refine Z.iload_n (pc := 128) (i := 1) dX9_read_128 rfl rfl ?_
              refine Z.iret (pc := 129) (ty := .int) dX9_read_129 rfl rfl ?_
              exact krd (ff_hit hx2 q3) (isP_w (ff_hit hx2 q3)) wl_y
        · have eW := wl_t qL (show 1 < g + 1 by have : ¬ g + 1 ≤ 1 := fun z => c98 (nI_le z (by decide)); omega)
          refine Z.iconst (pc := 101) (v := (1)) dX9_read_101 (by decide) ?_
          refine Z.goto (pc := 102) (tgt := 106) dX9_read_102 (by decide) ?_
          refine Z.putI (pc := 106) dX9_read_106 zp_X9_72 rfl rfl rfl rfl ?_
          rw [rd_14 eW]
          refine Z.aload_n (pc := 109) (i := 0) dX9_read_109 rfl rfl ?_
          refine Z.getIv (pc := 110) dX9_read_110 zf_X9_69 rfl rfl rd_15 ?_
          refine Z.bipush (pc := 113) (v := (nI 8)) dX9_read_113 (by decide) ?_
          refine Z.icmp_eq (pc := 115) (tgt := 128) dX9_read_115 (by decide) (fun c115 => ?_) (fun c115 => ?_)
          · have q3 : fxB pg len (3 + 4 * g + 3) = false := by rw [fx_3 hg, decide_eq_false (show ¬ g < 7 by have := (nI_eq (by omega) (by decide)).mp c115; omega), Bool.and_false]
            refine Z.iload_n (pc := 128) (i := 1) dX9_read_128 rfl rfl ?_
            refine Z.iret (pc := 129) (ty := .int) dX9_read_129 rfl rfl ?_
            exact krd (ff_hit hx2 q3) (isP_w (ff_hit hx2 q3)) wl_y
          · have g7 : g < 7 := by have : ¬ g + 1 = 8 := fun z => c115 (congrArg nI z); omega
            refine Z.aload_n (pc := 118) (i := 0) dX9_read_118 rfl rfl ?_
            refine Z.iload_n (pc := 119) (i := 1) dX9_read_119 rfl rfl ?_
            refine Z.callVi (pc := 120) dX9_read_120 (c_X9_at (Mp_rd hP) _ (by omega)) zm_X9_58 zv_X9_at rfl rfl rfl rfl (by decide) (by decide) (Nat.le_of_ble_eq_true rfl) ?_
            refine Z.bipush (pc := 123) (v := (44)) dX9_read_123 (by decide) ?_
            refine Z.icmp_eq (pc := 125) (tgt := 130) dX9_read_125 (by decide) (fun c125 => ?_) (fun c125 => ?_)
            · have q4 : fxB pg len (3 + 4 * g + 3) = true := by rw [fx_3 hg, decide_eq_true c125, decide_eq_true g7]; rfl
              rw [wl_no (fx_lt q4)]
              have hx3 : ∀ q, q < 3 + 4 * (g + 1) → fxB pg len q = true := fun q hq => by
                by_cases e : q = 3 + 4 * g + 3
                · subst e; exact q4
                · exact hx2 q (by omega)
              refine Z.iinc (pc := 130) (i := 1) (v := (nI (3 + 4 * (g + 1)))) dX9_read_130 rfl (by exact (ii_1 _).trans (congrArg nI (by omega))) (by decide) rfl ?_
              refine Z.goto (pc := 133) (tgt := 48) dX9_read_133 (by decide) ?_
              refine Z.drop 2 ?_
              exact ih (g + 1) (by omega) (by omega) hx3
            · have q3 : fxB pg len (3 + 4 * g + 3) = false := by rw [fx_3 hg, decide_eq_false c125]; rfl
              refine Z.iload_n (pc := 128) (i := 1) dX9_read_128 rfl rfl ?_
              refine Z.iret (pc := 129) (ty := .int) dX9_read_129 rfl rfl ?_
              exact krd (ff_hit hx2 q3) (isP_w (ff_hit hx2 q3)) wl_y
    · have q := rg_no hx (fun z => c67 (congrArg nI z))
      refine Z.iload_n (pc := 70) (i := 2) dX9_read_70 rfl rfl ?_
      refine Z.iret (pc := 71) (ty := .int) dX9_read_71 rfl rfl ?_
      exact krd q.1 q.2 (fun z => by cases z)
set_option maxRecDepth 100000 in
set_option maxHeartbeats 400000 in
theorem c_X9_read {h : hp} {len : Nat} {pg : zF} (hP : Mp h len pg)  : Cn yX9_read cX9_read 3 (some .int) 3 [.ref 30] h (KRd h len pg) := by
  refine Cn.of (by decide) (Nat.le_of_ble_eq_true rfl) ?_
  refine Z.eqL (lv' := [(0, .ref 30)]) rfl ?_
  refine Z.aload_n (pc := 0) (i := 0) dX9_read_0 rfl rfl ?_
  refine Z.iconst (pc := 1) (v := (0)) dX9_read_1 (by decide) ?_
  refine Z.putI (pc := 2) dX9_read_2 zp_X9_72 rfl rfl rfl rfl ?_
  refine Z.aload_n (pc := 5) (i := 0) dX9_read_5 rfl rfl ?_
  refine Z.iconst (pc := 6) (v := (0)) dX9_read_6 (by decide) ?_
  refine Z.putI (pc := 7) dX9_read_7 zp_X9_69 rfl rfl rfl rfl ?_
  have hR : Mp (rdM h false 0) len pg := Mp_rd hP
  have e0 : z_up (z_up h 30 14 0) 30 15 0 = rdM h false 0 := rfl
  rw [e0]
  refine Z.aload_n (pc := 10) (i := 0) dX9_read_10 rfl rfl ?_
  refine Z.iconst (pc := 11) (v := (nI 0)) dX9_read_11 (by decide) ?_
  refine Z.bipush (pc := 12) (v := (9)) dX9_read_12 (by decide) ?_
  refine Z.top (show (9 : Int32) = nI 10 - 1 from rfl) ?_
  refine Z.callVi (pc := 14) dX9_read_14 (c_X9_isFigure hR 0 10 (by decide) (by decide)) zm_X9_65 zv_X9_isFigure rfl rfl rfl rfl (by decide) (by decide) (Nat.le_of_ble_eq_true rfl) ?_
  rw [fx_dig (by decide)]
  refine Z.if_ne_b (pc := 17) (tgt := 22) dX9_read_17 (by decide) (fun c17 => ?_) (fun c17 => ?_)
  · have x1 : ∀ q, q < 1 → fxB pg len q = true := fun q hq => (show q = 0 by omega) ▸ c17
    refine Z.aload_n (pc := 22) (i := 0) dX9_read_22 rfl rfl ?_
    refine Z.iconst (pc := 23) (v := (nI 1)) dX9_read_23 (by decide) ?_
    refine Z.bipush (pc := 24) (v := (9)) dX9_read_24 (by decide) ?_
    refine Z.top (show (9 : Int32) = nI 10 - 1 from rfl) ?_
    refine Z.callVi (pc := 26) dX9_read_26 (c_X9_isFigure hR 1 10 (by decide) (by decide)) zm_X9_65 zv_X9_isFigure rfl rfl rfl rfl (by decide) (by decide) (Nat.le_of_ble_eq_true rfl) ?_
    rw [fx_dig (by decide)]
    refine Z.if_ne_b (pc := 29) (tgt := 34) dX9_read_29 (by decide) (fun c29 => ?_) (fun c29 => ?_)
    · have x2 : ∀ q, q < 2 → fxB pg len q = true := fun q hq => (show q = 1 ∨ q < 1 by omega).elim (fun z => z ▸ c29) (x1 q)
      refine Z.aload_n (pc := 34) (i := 0) dX9_read_34 rfl rfl ?_
      refine Z.iconst (pc := 35) (v := (nI 2)) dX9_read_35 (by decide) ?_
      refine Z.callVi (pc := 36) dX9_read_36 (c_X9_at hR 2 (by decide)) zm_X9_58 zv_X9_at rfl rfl rfl rfl (by decide) (by decide) (Nat.le_of_ble_eq_true rfl) ?_
      refine Z.bipush (pc := 39) (v := (59)) dX9_read_39 (by decide) ?_
      refine Z.icmp_eq (pc := 41) (tgt := 46) dX9_read_41 (by decide) (fun c41 => ?_) (fun c41 => ?_)
      · have x3 : ∀ q, q < 3 + 4 * 0 → fxB pg len q = true := fun q hq => (show q = 2 ∨ q < 2 by omega).elim (fun z => z ▸ (by rw [fx_sem, decide_eq_true c41])) (x2 q)
        refine Z.iconst (pc := 46) (v := (nI 3)) dX9_read_46 (by decide) ?_
        refine Z.istore_n (pc := 47) (i := 1) dX9_read_47 rfl (by decide) rfl ?_
        exact l_X9_read hP 8 0 rfl (by decide) x3
      · have e := ff_hit x2 (by rw [fx_sem, decide_eq_false c41])
        refine Z.iconst (pc := 44) (v := (2)) dX9_read_44 (by decide) ?_
        refine Z.iret (pc := 45) (ty := .int) dX9_read_45 rfl rfl ?_
        exact krd e (isP_no e (Or.inl (by decide))) (fun z => by cases z)
    · have e := ff_hit x1 c29
      refine Z.iconst (pc := 32) (v := (1)) dX9_read_32 (by decide) ?_
      refine Z.iret (pc := 33) (ty := .int) dX9_read_33 rfl rfl ?_
      exact krd e (isP_no e (Or.inl (by decide))) (fun z => by cases z)
  · have e := ff_hit (p := 0) (fun q hq => absurd hq (Nat.not_lt_zero q)) c17
    refine Z.iconst (pc := 20) (v := (0)) dX9_read_20 (by decide) ?_
    refine Z.iret (pc := 21) (ty := .int) dX9_read_21 rfl rfl ?_
    exact krd e (isP_no e (Or.inl (by decide))) (fun z => by cases z)
