set_option maxRecDepth 100000 in
set_option maxHeartbeats 4000000 in
theorem c_X8_isAmong (g m : Nat) (hg : g < 32) (hm : m < 2 ^ 31) {h : hp} : Cn yX8_isAmong cX8_isAmong 2 (some .boolean) 0 [.int (nI g), .int (nI m)] h (z_eq (some (.int (zb (m.testBit g)))) h) := by
  refine Cn.of (by decide) (Nat.le_of_ble_eq_true rfl) ?_
  refine Z.eqL (lv' := [(0, .int (nI g)), (1, .int (nI m))]) rfl ?_
  refine Z.iload_n (pc := 0) (i := 1) dX8_isAmong_0 rfl rfl ?_
  refine Z.iload_n (pc := 1) (i := 0) dX8_isAmong_1 rfl rfl ?_
  refine Z.ishr (pc := 2) dX8_isAmong_2 ?_
  refine Z.iconst (pc := 3) (v := (1)) dX8_isAmong_3 (by decide) ?_
  refine Z.iand (pc := 4) dX8_isAmong_4 ?_
  refine Z.top (nb_bit hm hg) ?_
  refine Z.iconst (pc := 5) (v := (1)) dX8_isAmong_5 (by decide) ?_
  refine Z.icmp_ne (pc := 6) (tgt := 13) dX8_isAmong_6 (by decide) (fun c6 => ?_) (fun c6 => ?_)
  · refine Z.iconst (pc := 13) (v := (0)) dX8_isAmong_13 (by decide) ?_
    refine Z.iret (pc := 14) (ty := .boolean) dX8_isAmong_14 rfl (by first | rfl | exact zb_nar _) ?_
    first | exact ⟨zb_t rfl (zb_1.mp c6), rfl⟩ | exact ⟨zb_f rfl (by cases q : m.testBit g with | false => rfl | true => exact absurd (by rw [q]; rfl) c6), rfl⟩
  · refine Z.iconst (pc := 9) (v := (1)) dX8_isAmong_9 (by decide) ?_
    refine Z.goto (pc := 10) (tgt := 14) dX8_isAmong_10 (by decide) ?_
    refine Z.iret (pc := 14) (ty := .boolean) dX8_isAmong_14 rfl (by first | rfl | exact zb_nar _) ?_
    first | exact ⟨zb_t rfl (zb_1.mp c6), rfl⟩ | exact ⟨zb_f rfl (by cases q : m.testBit g with | false => rfl | true => exact absurd (by rw [q]; rfl) c6), rfl⟩
set_option maxRecDepth 100000 in
set_option maxHeartbeats 4000000 in
theorem c_X9_isIn (m g : Nat) (hg : g < 32) (hm : m < 2 ^ 31) {h : hp} : Cn yX9_isIn cX9_isIn 2 (some .boolean) 0 [.int (nI m), .int (nI g)] h (z_eq (some (.int (zb (m.testBit g)))) h) := by
  refine Cn.of (by decide) (Nat.le_of_ble_eq_true rfl) ?_
  refine Z.eqL (lv' := [(0, .int (nI m)), (1, .int (nI g))]) rfl ?_
  refine Z.iload_n (pc := 0) (i := 0) dX9_isIn_0 rfl rfl ?_
  refine Z.iload_n (pc := 1) (i := 1) dX9_isIn_1 rfl rfl ?_
  refine Z.ishr (pc := 2) dX9_isIn_2 ?_
  refine Z.iconst (pc := 3) (v := (1)) dX9_isIn_3 (by decide) ?_
  refine Z.iand (pc := 4) dX9_isIn_4 ?_
  refine Z.top (nb_bit hm hg) ?_
  refine Z.iconst (pc := 5) (v := (1)) dX9_isIn_5 (by decide) ?_
  refine Z.icmp_ne (pc := 6) (tgt := 13) dX9_isIn_6 (by decide) (fun c6 => ?_) (fun c6 => ?_)
  · refine Z.iconst (pc := 13) (v := (0)) dX9_isIn_13 (by decide) ?_
    refine Z.iret (pc := 14) (ty := .boolean) dX9_isIn_14 rfl (by first | rfl | exact zb_nar _) ?_
    first | exact ⟨zb_t rfl (zb_1.mp c6), rfl⟩ | exact ⟨zb_f rfl (by cases q : m.testBit g with | false => rfl | true => exact absurd (by rw [q]; rfl) c6), rfl⟩
  · refine Z.iconst (pc := 9) (v := (1)) dX9_isIn_9 (by decide) ?_
    refine Z.goto (pc := 10) (tgt := 14) dX9_isIn_10 (by decide) ?_
    refine Z.iret (pc := 14) (ty := .boolean) dX9_isIn_14 rfl (by first | rfl | exact zb_nar _) ?_
    first | exact ⟨zb_t rfl (zb_1.mp c6), rfl⟩ | exact ⟨zb_f rfl (by cases q : m.testBit g with | false => rfl | true => exact absurd (by rw [q]; rfl) c6), rfl⟩
set_option maxRecDepth 100000 in
set_option maxHeartbeats 4000000 in
theorem c_X3_isKind (k : Int32) {h : hp} : Cn yX3_isKind cX3_isKind 1 (some .boolean) 0 [.int k] h (z_eq (some (.int (zb (inR k 0 4)))) h) := by
  refine Cn.of (by decide) (Nat.le_of_ble_eq_true rfl) ?_
  refine Z.eqL (lv' := [(0, .int k)]) rfl ?_
  refine Z.iload_n (pc := 0) (i := 0) dX3_isKind_0 rfl rfl ?_
  refine Z.if_lt (pc := 1) (tgt := 13) dX3_isKind_1 (by decide) (fun c1 => ?_) (fun c1 => ?_)
  · refine Z.iconst (pc := 13) (v := (0)) dX3_isKind_13 (by decide) ?_
    refine Z.iret (pc := 14) (ty := .boolean) dX3_isKind_14 rfl (by first | rfl | exact zb_nar _) ?_
    first | exact ⟨zb_f rfl (decide_eq_false (fun q => lt_nle c1 q.1)), rfl⟩ | exact ⟨zb_f rfl (decide_eq_false (fun q => lt_nle c6 q.2)), rfl⟩ | exact ⟨zb_t rfl (decide_eq_true ⟨nlt c1, nlt c6⟩), rfl⟩
  · refine Z.iload_n (pc := 4) (i := 0) dX3_isKind_4 rfl rfl ?_
    refine Z.iconst (pc := 5) (v := (4)) dX3_isKind_5 (by decide) ?_
    refine Z.icmp_gt (pc := 6) (tgt := 13) dX3_isKind_6 (by decide) (fun c6 => ?_) (fun c6 => ?_)
    · refine Z.iconst (pc := 13) (v := (0)) dX3_isKind_13 (by decide) ?_
      refine Z.iret (pc := 14) (ty := .boolean) dX3_isKind_14 rfl (by first | rfl | exact zb_nar _) ?_
      first | exact ⟨zb_f rfl (decide_eq_false (fun q => lt_nle c1 q.1)), rfl⟩ | exact ⟨zb_f rfl (decide_eq_false (fun q => lt_nle c6 q.2)), rfl⟩ | exact ⟨zb_t rfl (decide_eq_true ⟨nlt c1, nlt c6⟩), rfl⟩
    · refine Z.iconst (pc := 9) (v := (1)) dX3_isKind_9 (by decide) ?_
      refine Z.goto (pc := 10) (tgt := 14) dX3_isKind_10 (by decide) ?_
      refine Z.iret (pc := 14) (ty := .boolean) dX3_isKind_14 rfl (by first | rfl | exact zb_nar _) ?_
      first | exact ⟨zb_f rfl (decide_eq_false (fun q => lt_nle c1 q.1)), rfl⟩ | exact ⟨zb_f rfl (decide_eq_false (fun q => lt_nle c6 q.2)), rfl⟩ | exact ⟨zb_t rfl (decide_eq_true ⟨nlt c1, nlt c6⟩), rfl⟩
set_option maxRecDepth 100000 in
set_option maxHeartbeats 4000000 in
theorem c_X9_within (k lo hi : Int32) {h : hp} : Cn yX9_within cX9_within 3 (some .boolean) 0 [.int k, .int lo, .int hi] h (z_eq (some (.int (zb (inR k lo hi)))) h) := by
  refine Cn.of (by decide) (Nat.le_of_ble_eq_true rfl) ?_
  refine Z.eqL (lv' := [(0, .int k), (1, .int lo), (2, .int hi)]) rfl ?_
  refine Z.iload_n (pc := 0) (i := 0) dX9_within_0 rfl rfl ?_
  refine Z.iload_n (pc := 1) (i := 1) dX9_within_1 rfl rfl ?_
  refine Z.icmp_lt (pc := 2) (tgt := 14) dX9_within_2 (by decide) (fun c2 => ?_) (fun c2 => ?_)
  · refine Z.iconst (pc := 14) (v := (0)) dX9_within_14 (by decide) ?_
    refine Z.iret (pc := 15) (ty := .boolean) dX9_within_15 rfl (by first | rfl | exact zb_nar _) ?_
    first | exact ⟨zb_f rfl (decide_eq_false (fun q => lt_nle c2 q.1)), rfl⟩ | exact ⟨zb_f rfl (decide_eq_false (fun q => lt_nle c7 q.2)), rfl⟩ | exact ⟨zb_t rfl (decide_eq_true ⟨nlt c2, nlt c7⟩), rfl⟩
  · refine Z.iload_n (pc := 5) (i := 0) dX9_within_5 rfl rfl ?_
    refine Z.iload_n (pc := 6) (i := 2) dX9_within_6 rfl rfl ?_
    refine Z.icmp_gt (pc := 7) (tgt := 14) dX9_within_7 (by decide) (fun c7 => ?_) (fun c7 => ?_)
    · refine Z.iconst (pc := 14) (v := (0)) dX9_within_14 (by decide) ?_
      refine Z.iret (pc := 15) (ty := .boolean) dX9_within_15 rfl (by first | rfl | exact zb_nar _) ?_
      first | exact ⟨zb_f rfl (decide_eq_false (fun q => lt_nle c2 q.1)), rfl⟩ | exact ⟨zb_f rfl (decide_eq_false (fun q => lt_nle c7 q.2)), rfl⟩ | exact ⟨zb_t rfl (decide_eq_true ⟨nlt c2, nlt c7⟩), rfl⟩
    · refine Z.iconst (pc := 10) (v := (1)) dX9_within_10 (by decide) ?_
      refine Z.goto (pc := 11) (tgt := 15) dX9_within_11 (by decide) ?_
      refine Z.iret (pc := 15) (ty := .boolean) dX9_within_15 rfl (by first | rfl | exact zb_nar _) ?_
      first | exact ⟨zb_f rfl (decide_eq_false (fun q => lt_nle c2 q.1)), rfl⟩ | exact ⟨zb_f rfl (decide_eq_false (fun q => lt_nle c7 q.2)), rfl⟩ | exact ⟨zb_t rfl (decide_eq_true ⟨nlt c2, nlt c7⟩), rfl⟩
set_option maxRecDepth 100000 in
set_option maxHeartbeats 4000000 in
theorem c_X3_isSuch (k w : Int32) {h : hp} : Cn yX3_isSuch cX3_isSuch 2 (some .boolean) 0 [.int k, .int w] h (z_eq (some (.int (zb (suchB k w)))) h) := by
  refine Cn.of (by decide) (Nat.le_of_ble_eq_true rfl) ?_
  refine Z.eqL (lv' := [(0, .int k), (1, .int w)]) rfl ?_
  refine Z.iload_n (pc := 0) (i := 1) dX3_isSuch_0 rfl rfl ?_
  refine Z.if_eq (pc := 1) (tgt := 19) dX3_isSuch_1 (by decide) (fun c1 => ?_) (fun c1 => ?_)
  · refine Z.iconst (pc := 19) (v := (1)) dX3_isSuch_19 (by decide) ?_
    refine Z.goto (pc := 20) (tgt := 24) dX3_isSuch_20 (by decide) ?_
    refine Z.iret (pc := 24) (ty := .boolean) dX3_isSuch_24 rfl (by first | rfl | exact zb_nar _) ?_
    first | exact ⟨zb_t rfl (decide_eq_true (Or.inl c1)), rfl⟩ | exact ⟨zb_t rfl (decide_eq_true (Or.inr (Or.inl c6))), rfl⟩ | exact ⟨zb_t rfl (decide_eq_true (Or.inr (Or.inr ⟨c11, c16⟩))), rfl⟩ | exact ⟨zb_f rfl (decide_eq_false (by rintro (q | q | q); exact c1 q; exact c6 q; exact c11 q.1)), rfl⟩ | exact ⟨zb_f rfl (decide_eq_false (by rintro (q | q | q); exact c1 q; exact c6 q; exact c16 q.2)), rfl⟩
  · refine Z.iload_n (pc := 4) (i := 1) dX3_isSuch_4 rfl rfl ?_
    refine Z.iload_n (pc := 5) (i := 0) dX3_isSuch_5 rfl rfl ?_
    refine Z.icmp_eq (pc := 6) (tgt := 19) dX3_isSuch_6 (by decide) (fun c6 => ?_) (fun c6 => ?_)
    · refine Z.iconst (pc := 19) (v := (1)) dX3_isSuch_19 (by decide) ?_
      refine Z.goto (pc := 20) (tgt := 24) dX3_isSuch_20 (by decide) ?_
      refine Z.iret (pc := 24) (ty := .boolean) dX3_isSuch_24 rfl (by first | rfl | exact zb_nar _) ?_
      first | exact ⟨zb_t rfl (decide_eq_true (Or.inl c1)), rfl⟩ | exact ⟨zb_t rfl (decide_eq_true (Or.inr (Or.inl c6))), rfl⟩ | exact ⟨zb_t rfl (decide_eq_true (Or.inr (Or.inr ⟨c11, c16⟩))), rfl⟩ | exact ⟨zb_f rfl (decide_eq_false (by rintro (q | q | q); exact c1 q; exact c6 q; exact c11 q.1)), rfl⟩ | exact ⟨zb_f rfl (decide_eq_false (by rintro (q | q | q); exact c1 q; exact c6 q; exact c16 q.2)), rfl⟩
    · refine Z.iload_n (pc := 9) (i := 1) dX3_isSuch_9 rfl rfl ?_
      refine Z.iconst (pc := 10) (v := (3)) dX3_isSuch_10 (by decide) ?_
      refine Z.icmp_ne (pc := 11) (tgt := 23) dX3_isSuch_11 (by decide) (fun c11 => ?_) (fun c11 => ?_)
      · refine Z.iconst (pc := 23) (v := (0)) dX3_isSuch_23 (by decide) ?_
        refine Z.iret (pc := 24) (ty := .boolean) dX3_isSuch_24 rfl (by first | rfl | exact zb_nar _) ?_
        first | exact ⟨zb_t rfl (decide_eq_true (Or.inl c1)), rfl⟩ | exact ⟨zb_t rfl (decide_eq_true (Or.inr (Or.inl c6))), rfl⟩ | exact ⟨zb_t rfl (decide_eq_true (Or.inr (Or.inr ⟨c11, c16⟩))), rfl⟩ | exact ⟨zb_f rfl (decide_eq_false (by rintro (q | q | q); exact c1 q; exact c6 q; exact c11 q.1)), rfl⟩ | exact ⟨zb_f rfl (decide_eq_false (by rintro (q | q | q); exact c1 q; exact c6 q; exact c16 q.2)), rfl⟩
      · refine Z.iload_n (pc := 14) (i := 0) dX3_isSuch_14 rfl rfl ?_
        refine Z.iconst (pc := 15) (v := (4)) dX3_isSuch_15 (by decide) ?_
        refine Z.icmp_ne (pc := 16) (tgt := 23) dX3_isSuch_16 (by decide) (fun c16 => ?_) (fun c16 => ?_)
        · refine Z.iconst (pc := 23) (v := (0)) dX3_isSuch_23 (by decide) ?_
          refine Z.iret (pc := 24) (ty := .boolean) dX3_isSuch_24 rfl (by first | rfl | exact zb_nar _) ?_
          first | exact ⟨zb_t rfl (decide_eq_true (Or.inl c1)), rfl⟩ | exact ⟨zb_t rfl (decide_eq_true (Or.inr (Or.inl c6))), rfl⟩ | exact ⟨zb_t rfl (decide_eq_true (Or.inr (Or.inr ⟨c11, c16⟩))), rfl⟩ | exact ⟨zb_f rfl (decide_eq_false (by rintro (q | q | q); exact c1 q; exact c6 q; exact c11 q.1)), rfl⟩ | exact ⟨zb_f rfl (decide_eq_false (by rintro (q | q | q); exact c1 q; exact c6 q; exact c16 q.2)), rfl⟩
        · refine Z.iconst (pc := 19) (v := (1)) dX3_isSuch_19 (by decide) ?_
          refine Z.goto (pc := 20) (tgt := 24) dX3_isSuch_20 (by decide) ?_
          refine Z.iret (pc := 24) (ty := .boolean) dX3_isSuch_24 rfl (by first | rfl | exact zb_nar _) ?_
          first | exact ⟨zb_t rfl (decide_eq_true (Or.inl c1)), rfl⟩ | exact ⟨zb_t rfl (decide_eq_true (Or.inr (Or.inl c6))), rfl⟩ | exact ⟨zb_t rfl (decide_eq_true (Or.inr (Or.inr ⟨c11, c16⟩))), rfl⟩ | exact ⟨zb_f rfl (decide_eq_false (by rintro (q | q | q); exact c1 q; exact c6 q; exact c11 q.1)), rfl⟩ | exact ⟨zb_f rfl (decide_eq_false (by rintro (q | q | q); exact c1 q; exact c6 q; exact c16 q.2)), rfl⟩
set_option maxRecDepth 100000 in
set_option maxHeartbeats 4000000 in
theorem c_X3_needs_0 (s : Int32) {h : hp} : Cn yX3_needs cX3_needs 2 (some .int) 0 [.int 0, .int s] h (z_eq (some (.int (ndsI 0 s))) h) := by
  refine Cn.of (by decide) (Nat.le_of_ble_eq_true rfl) ?_
  refine Z.eqL (lv' := [(0, .int 0), (1, .int s)]) rfl ?_
  refine Z.iload_n (pc := 0) (i := 0) dX3_needs_0 rfl rfl ?_
  refine Z.tableOut (pc := 1) (tgt := 42) dX3_needs_1 (by decide) (by decide) ?_
  refine Z.iload_n (pc := 42) (i := 1) dX3_needs_42 rfl rfl ?_
  refine Z.iret (pc := 43) (ty := .int) dX3_needs_43 rfl rfl ?_
  exact ⟨rfl, rfl⟩
set_option maxRecDepth 100000 in
set_option maxHeartbeats 4000000 in
theorem c_X3_needs_1 (s : Int32) {h : hp} : Cn yX3_needs cX3_needs 2 (some .int) 0 [.int 1, .int s] h (z_eq (some (.int (ndsI 1 s))) h) := by
  refine Cn.of (by decide) (Nat.le_of_ble_eq_true rfl) ?_
  refine Z.eqL (lv' := [(0, .int 1), (1, .int s)]) rfl ?_
  refine Z.iload_n (pc := 0) (i := 0) dX3_needs_0 rfl rfl ?_
  refine Z.tableIn (pc := 1) (off := 31) (tgt := 32) dX3_needs_1 (by decide) (by decide) (by decide) (by decide) ?_
  refine Z.iload_n (pc := 32) (i := 1) dX3_needs_32 rfl rfl ?_
  refine Z.iconst (pc := 33) (v := (2)) dX3_needs_33 (by decide) ?_
  refine Z.idiv (pc := 34) dX3_needs_34 (by decide) ?_
  refine Z.iret (pc := 35) (ty := .int) dX3_needs_35 rfl rfl ?_
  exact ⟨rfl, rfl⟩
set_option maxRecDepth 100000 in
set_option maxHeartbeats 4000000 in
theorem c_X3_needs_2 (s : Int32) {h : hp} : Cn yX3_needs cX3_needs 2 (some .int) 0 [.int 2, .int s] h (z_eq (some (.int (ndsI 2 s))) h) := by
  refine Cn.of (by decide) (Nat.le_of_ble_eq_true rfl) ?_
  refine Z.eqL (lv' := [(0, .int 2), (1, .int s)]) rfl ?_
  refine Z.iload_n (pc := 0) (i := 0) dX3_needs_0 rfl rfl ?_
  refine Z.tableIn (pc := 1) (off := 35) (tgt := 36) dX3_needs_1 (by decide) (by decide) (by decide) (by decide) ?_
  refine Z.iload_n (pc := 36) (i := 1) dX3_needs_36 rfl rfl ?_
  refine Z.iconst (pc := 37) (v := (2)) dX3_needs_37 (by decide) ?_
  refine Z.iadd (pc := 38) dX3_needs_38 ?_
  refine Z.iret (pc := 39) (ty := .int) dX3_needs_39 rfl rfl ?_
  exact ⟨rfl, rfl⟩
set_option maxRecDepth 100000 in
set_option maxHeartbeats 4000000 in
theorem c_X3_needs_3 (s : Int32) {h : hp} : Cn yX3_needs cX3_needs 2 (some .int) 0 [.int 3, .int s] h (z_eq (some (.int (ndsI 3 s))) h) := by
  refine Cn.of (by decide) (Nat.le_of_ble_eq_true rfl) ?_
  refine Z.eqL (lv' := [(0, .int 3), (1, .int s)]) rfl ?_
  refine Z.iload_n (pc := 0) (i := 0) dX3_needs_0 rfl rfl ?_
  refine Z.tableIn (pc := 1) (off := 39) (tgt := 40) dX3_needs_1 (by decide) (by decide) (by decide) (by decide) ?_
  refine Z.iconst (pc := 40) (v := (0)) dX3_needs_40 (by decide) ?_
  refine Z.iret (pc := 41) (ty := .int) dX3_needs_41 rfl rfl ?_
  exact ⟨rfl, rfl⟩
set_option maxRecDepth 100000 in
set_option maxHeartbeats 4000000 in
theorem c_X3_needs_4 (s : Int32) {h : hp} : Cn yX3_needs cX3_needs 2 (some .int) 0 [.int 4, .int s] h (z_eq (some (.int (ndsI 4 s))) h) := by
  refine Cn.of (by decide) (Nat.le_of_ble_eq_true rfl) ?_
  refine Z.eqL (lv' := [(0, .int 4), (1, .int s)]) rfl ?_
  refine Z.iload_n (pc := 0) (i := 0) dX3_needs_0 rfl rfl ?_
  refine Z.tableIn (pc := 1) (off := 39) (tgt := 40) dX3_needs_1 (by decide) (by decide) (by decide) (by decide) ?_
  refine Z.iconst (pc := 40) (v := (0)) dX3_needs_40 (by decide) ?_
  refine Z.iret (pc := 41) (ty := .int) dX3_needs_41 rfl rfl ?_
  exact ⟨rfl, rfl⟩
theorem c_X3_needs (k s : Int32) (hk : okK k) {h : hp} : Cn yX3_needs cX3_needs 2 (some .int) 0 [.int k, .int s] h (z_eq (some (.int (ndsI k s))) h) := by
  rcases hk with rfl | rfl | rfl | rfl | rfl
  · exact c_X3_needs_0 s
  · exact c_X3_needs_1 s
  · exact c_X3_needs_2 s
  · exact c_X3_needs_3 s
  · exact c_X3_needs_4 s
set_option maxRecDepth 100000 in
set_option maxHeartbeats 4000000 in
theorem c_X9_needsBy_0 (s : Int32) {h : hp} : Cn yX9_needsBy cX9_needsBy 2 (some .int) 0 [.int 0, .int s] h (z_eq (some (.int (ndsI 0 s))) h) := by
  refine Cn.of (by decide) (Nat.le_of_ble_eq_true rfl) ?_
  refine Z.eqL (lv' := [(0, .int 0), (1, .int s)]) rfl ?_
  refine Z.iload_n (pc := 0) (i := 0) dX9_needsBy_0 rfl rfl ?_
  refine Z.tableOut (pc := 1) (tgt := 42) dX9_needsBy_1 (by decide) (by decide) ?_
  refine Z.iload_n (pc := 42) (i := 1) dX9_needsBy_42 rfl rfl ?_
  refine Z.iret (pc := 43) (ty := .int) dX9_needsBy_43 rfl rfl ?_
  exact ⟨rfl, rfl⟩
set_option maxRecDepth 100000 in
set_option maxHeartbeats 4000000 in
theorem c_X9_needsBy_1 (s : Int32) {h : hp} : Cn yX9_needsBy cX9_needsBy 2 (some .int) 0 [.int 1, .int s] h (z_eq (some (.int (ndsI 1 s))) h) := by
  refine Cn.of (by decide) (Nat.le_of_ble_eq_true rfl) ?_
  refine Z.eqL (lv' := [(0, .int 1), (1, .int s)]) rfl ?_
  refine Z.iload_n (pc := 0) (i := 0) dX9_needsBy_0 rfl rfl ?_
  refine Z.tableIn (pc := 1) (off := 31) (tgt := 32) dX9_needsBy_1 (by decide) (by decide) (by decide) (by decide) ?_
  refine Z.iload_n (pc := 32) (i := 1) dX9_needsBy_32 rfl rfl ?_
  refine Z.iconst (pc := 33) (v := (2)) dX9_needsBy_33 (by decide) ?_
  refine Z.idiv (pc := 34) dX9_needsBy_34 (by decide) ?_
  refine Z.iret (pc := 35) (ty := .int) dX9_needsBy_35 rfl rfl ?_
  exact ⟨rfl, rfl⟩
set_option maxRecDepth 100000 in
set_option maxHeartbeats 4000000 in
theorem c_X9_needsBy_2 (s : Int32) {h : hp} : Cn yX9_needsBy cX9_needsBy 2 (some .int) 0 [.int 2, .int s] h (z_eq (some (.int (ndsI 2 s))) h) := by
  refine Cn.of (by decide) (Nat.le_of_ble_eq_true rfl) ?_
  refine Z.eqL (lv' := [(0, .int 2), (1, .int s)]) rfl ?_
  refine Z.iload_n (pc := 0) (i := 0) dX9_needsBy_0 rfl rfl ?_
  refine Z.tableIn (pc := 1) (off := 35) (tgt := 36) dX9_needsBy_1 (by decide) (by decide) (by decide) (by decide) ?_
  refine Z.iload_n (pc := 36) (i := 1) dX9_needsBy_36 rfl rfl ?_
  refine Z.iconst (pc := 37) (v := (2)) dX9_needsBy_37 (by decide) ?_
  refine Z.iadd (pc := 38) dX9_needsBy_38 ?_
  refine Z.iret (pc := 39) (ty := .int) dX9_needsBy_39 rfl rfl ?_
  exact ⟨rfl, rfl⟩
set_option maxRecDepth 100000 in
set_option maxHeartbeats 4000000 in
theorem c_X9_needsBy_3 (s : Int32) {h : hp} : Cn yX9_needsBy cX9_needsBy 2 (some .int) 0 [.int 3, .int s] h (z_eq (some (.int (ndsI 3 s))) h) := by
  refine Cn.of (by decide) (Nat.le_of_ble_eq_true rfl) ?_
  refine Z.eqL (lv' := [(0, .int 3), (1, .int s)]) rfl ?_
  refine Z.iload_n (pc := 0) (i := 0) dX9_needsBy_0 rfl rfl ?_
  refine Z.tableIn (pc := 1) (off := 39) (tgt := 40) dX9_needsBy_1 (by decide) (by decide) (by decide) (by decide) ?_
  refine Z.iconst (pc := 40) (v := (0)) dX9_needsBy_40 (by decide) ?_
  refine Z.iret (pc := 41) (ty := .int) dX9_needsBy_41 rfl rfl ?_
  exact ⟨rfl, rfl⟩
set_option maxRecDepth 100000 in
set_option maxHeartbeats 4000000 in
theorem c_X9_needsBy_4 (s : Int32) {h : hp} : Cn yX9_needsBy cX9_needsBy 2 (some .int) 0 [.int 4, .int s] h (z_eq (some (.int (ndsI 4 s))) h) := by
  refine Cn.of (by decide) (Nat.le_of_ble_eq_true rfl) ?_
  refine Z.eqL (lv' := [(0, .int 4), (1, .int s)]) rfl ?_
  refine Z.iload_n (pc := 0) (i := 0) dX9_needsBy_0 rfl rfl ?_
  refine Z.tableIn (pc := 1) (off := 39) (tgt := 40) dX9_needsBy_1 (by decide) (by decide) (by decide) (by decide) ?_
  refine Z.iconst (pc := 40) (v := (0)) dX9_needsBy_40 (by decide) ?_
  refine Z.iret (pc := 41) (ty := .int) dX9_needsBy_41 rfl rfl ?_
  exact ⟨rfl, rfl⟩
theorem c_X9_needsBy (k s : Int32) (hk : okK k) {h : hp} : Cn yX9_needsBy cX9_needsBy 2 (some .int) 0 [.int k, .int s] h (z_eq (some (.int (ndsI k s))) h) := by
  rcases hk with rfl | rfl | rfl | rfl | rfl
  · exact c_X9_needsBy_0 s
  · exact c_X9_needsBy_1 s
  · exact c_X9_needsBy_2 s
  · exact c_X9_needsBy_3 s
  · exact c_X9_needsBy_4 s
set_option maxRecDepth 100000 in
set_option maxHeartbeats 4000000 in
theorem c_X3_countsAs (k : Int32) {h : hp} : Cn yX3_countsAs cX3_countsAs 1 (some .int) 0 [.int k] h (z_eq (some (.int (ctsI k))) h) := by
  refine Cn.of (by decide) (Nat.le_of_ble_eq_true rfl) ?_
  refine Z.eqL (lv' := [(0, .int k)]) rfl ?_
  refine Z.iload_n (pc := 0) (i := 0) dX3_countsAs_0 rfl rfl ?_
  refine Z.iconst (pc := 1) (v := (4)) dX3_countsAs_1 (by decide) ?_
  refine Z.icmp_ne (pc := 2) (tgt := 9) dX3_countsAs_2 (by decide) (fun c2 => ?_) (fun c2 => ?_)
  · refine Z.iconst (pc := 9) (v := (1)) dX3_countsAs_9 (by decide) ?_
    refine Z.iret (pc := 10) (ty := .int) dX3_countsAs_10 rfl rfl ?_
    exact ⟨by simp [ctsI, c2], rfl⟩
  · refine Z.iconst (pc := 5) (v := (2)) dX3_countsAs_5 (by decide) ?_
    refine Z.goto (pc := 6) (tgt := 10) dX3_countsAs_6 (by decide) ?_
    refine Z.iret (pc := 10) (ty := .int) dX3_countsAs_10 rfl rfl ?_
    exact ⟨by simp [ctsI, c2], rfl⟩
def bcI : Int32 → Int32 := (fun x0 : Int32 => let x1 := x0 - ((x0.toUInt32 >>> ((1 : Int32).toUInt32 &&& Int32.toUInt32 31)).toInt32 &&& 1431655765); let x2 := (x1 &&& 858993459) + ((x1.toUInt32 >>> ((2 : Int32).toUInt32 &&& Int32.toUInt32 31)).toInt32 &&& 858993459); let x3 := (x2 + (x2.toUInt32 >>> ((4 : Int32).toUInt32 &&& Int32.toUInt32 31)).toInt32) &&& 252645135; let x4 := x3 + (x3.toUInt32 >>> ((8 : Int32).toUInt32 &&& Int32.toUInt32 31)).toInt32; let x5 := x4 + (x4.toUInt32 >>> ((16 : Int32).toUInt32 &&& Int32.toUInt32 31)).toInt32; x5 &&& 63)
set_option maxRecDepth 100000 in
theorem bcI_all : ∀ m, m < 1024 → bcI (nI m) = nI (pop m) := by decide +kernel
set_option maxRecDepth 100000 in
set_option maxHeartbeats 4000000 in
theorem c_bitCountI (x : Int32) {h : hp} : Cn yJ6_bitCount_0f7a4 cJ6_bitCount_0f7a4 1 (some .int) 0 [.int x] h (z_eq (some (.int (bcI x))) h) := by
  refine Cn.of (by decide) (Nat.le_of_ble_eq_true rfl) ?_
  refine Z.eqL (lv' := [(0, .int x)]) rfl ?_
  refine Z.iload_n (pc := 0) (i := 0) dJ6_bitCount_0f7a4_0 rfl rfl ?_
  refine Z.iload_n (pc := 1) (i := 0) dJ6_bitCount_0f7a4_1 rfl rfl ?_
  refine Z.iconst (pc := 2) (v := (1)) dJ6_bitCount_0f7a4_2 (by decide) ?_
  refine Z.iushr (pc := 3) dJ6_bitCount_0f7a4_3 ?_
  refine Z.ldcw (pc := 4) dJ6_bitCount_0f7a4_4 zk_J6_265 ?_
  refine Z.iand (pc := 7) dJ6_bitCount_0f7a4_7 ?_
  refine Z.isub (pc := 8) dJ6_bitCount_0f7a4_8 ?_
  refine Z.istore_n (pc := 9) (i := 0) dJ6_bitCount_0f7a4_9 rfl (by decide) rfl ?_
  refine Z.iload_n (pc := 10) (i := 0) dJ6_bitCount_0f7a4_10 rfl rfl ?_
  refine Z.ldcw (pc := 11) dJ6_bitCount_0f7a4_11 zk_J6_266 ?_
  refine Z.iand (pc := 14) dJ6_bitCount_0f7a4_14 ?_
  refine Z.iload_n (pc := 15) (i := 0) dJ6_bitCount_0f7a4_15 rfl rfl ?_
  refine Z.iconst (pc := 16) (v := (2)) dJ6_bitCount_0f7a4_16 (by decide) ?_
  refine Z.iushr (pc := 17) dJ6_bitCount_0f7a4_17 ?_
  refine Z.ldcw (pc := 18) dJ6_bitCount_0f7a4_18 zk_J6_266 ?_
  refine Z.iand (pc := 21) dJ6_bitCount_0f7a4_21 ?_
  refine Z.iadd (pc := 22) dJ6_bitCount_0f7a4_22 ?_
  refine Z.istore_n (pc := 23) (i := 0) dJ6_bitCount_0f7a4_23 rfl (by decide) rfl ?_
  refine Z.iload_n (pc := 24) (i := 0) dJ6_bitCount_0f7a4_24 rfl rfl ?_
  refine Z.iload_n (pc := 25) (i := 0) dJ6_bitCount_0f7a4_25 rfl rfl ?_
  refine Z.iconst (pc := 26) (v := (4)) dJ6_bitCount_0f7a4_26 (by decide) ?_
  refine Z.iushr (pc := 27) dJ6_bitCount_0f7a4_27 ?_
  refine Z.iadd (pc := 28) dJ6_bitCount_0f7a4_28 ?_
  refine Z.ldcw (pc := 29) dJ6_bitCount_0f7a4_29 zk_J6_267 ?_
  refine Z.iand (pc := 32) dJ6_bitCount_0f7a4_32 ?_
  refine Z.istore_n (pc := 33) (i := 0) dJ6_bitCount_0f7a4_33 rfl (by decide) rfl ?_
  refine Z.iload_n (pc := 34) (i := 0) dJ6_bitCount_0f7a4_34 rfl rfl ?_
  refine Z.iload_n (pc := 35) (i := 0) dJ6_bitCount_0f7a4_35 rfl rfl ?_
  refine Z.bipush (pc := 36) (v := (8)) dJ6_bitCount_0f7a4_36 (by decide) ?_
  refine Z.iushr (pc := 38) dJ6_bitCount_0f7a4_38 ?_
  refine Z.iadd (pc := 39) dJ6_bitCount_0f7a4_39 ?_
  refine Z.istore_n (pc := 40) (i := 0) dJ6_bitCount_0f7a4_40 rfl (by decide) rfl ?_
  refine Z.iload_n (pc := 41) (i := 0) dJ6_bitCount_0f7a4_41 rfl rfl ?_
  refine Z.iload_n (pc := 42) (i := 0) dJ6_bitCount_0f7a4_42 rfl rfl ?_
  refine Z.bipush (pc := 43) (v := (16)) dJ6_bitCount_0f7a4_43 (by decide) ?_
  refine Z.iushr (pc := 45) dJ6_bitCount_0f7a4_45 ?_
  refine Z.iadd (pc := 46) dJ6_bitCount_0f7a4_46 ?_
  refine Z.istore_n (pc := 47) (i := 0) dJ6_bitCount_0f7a4_47 rfl (by decide) rfl ?_
  refine Z.iload_n (pc := 48) (i := 0) dJ6_bitCount_0f7a4_48 rfl rfl ?_
  refine Z.bipush (pc := 49) (v := (63)) dJ6_bitCount_0f7a4_49 (by decide) ?_
  refine Z.iand (pc := 51) dJ6_bitCount_0f7a4_51 ?_
  refine Z.iret (pc := 52) (ty := .int) dJ6_bitCount_0f7a4_52 rfl rfl ?_
  exact ⟨rfl, rfl⟩
theorem c_J6_bitCount_0f7a4 (m : Nat) (hm : m < 1024) {h : hp} : Cn yJ6_bitCount_0f7a4 cJ6_bitCount_0f7a4 1 (some .int) 0 [.int (nI m)] h (z_eq (some (.int (nI (pop m)))) h) := bcI_all m hm ▸ c_bitCountI (nI m)
