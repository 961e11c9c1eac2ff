set_option maxRecDepth 100000 in
set_option maxHeartbeats 4000000 in
theorem c_X8_isAmong (g m : Nat) (hg : g < 32) (hm : m < 2 ^ 31) {h : hp} : Cn yX8_isAmong cX8_isAmong 2 (some .boolean) 0 [.int (nI g), .int (nI m)] h (z_eq (some (.int (zb (m.testBit g)))) h) := by
  refine Cn.of (by decide) (Nat.le_of_ble_eq_true rfl) ?_
  refine Z.eqL (lv' := [(0, .int (nI g)), (1, .int (nI m))]) rfl ?_
  refine Z.iload_n (pc := 0) (i := 1) dX8_isAmong_0 rfl rfl ?_
  refine Z.iload_n (pc := 1) (i := 0) dX8_isAmong_1 rfl rfl ?_
  refine Z.ishr (pc := 2) dX8_isAmong_2 ?_
  refine Z.iconst (pc := 3) (v := (1)) dX8_isAmong_3 (by decide) ?_
  refine Z.iand (pc := 4) dX8_isAmong_4 ?_
  refine Z.top (nb_bit hm hg) ?_
  refine Z.iconst (pc := 5) (v := (1)) dX8_isAmong_5 (by decide) ?_
  refine Z.icmp_ne (pc := 6) (tgt := 13) dX8_isAmong_6 (by decide) (fun c6 => ?_) (fun c6 => ?_)
  · refine Z.iconst (pc := 13) (v := (0)) dX8_isAmong_13 (by decide) ?_
    refine Z.iret (pc := 14) (ty := .boolean) dX8_isAmong_14 rfl (by first | rfl | exact zb_nar _) ?_
    first | exact ⟨zb_t rfl (zb_1.mp c6), rfl⟩ | exact ⟨zb_f rfl (by cases q : m.testBit g with | false => rfl | true => exact absurd (by rw [q]; rfl) c6), rfl⟩
  · refine Z.iconst (pc := 9) (v := (1)) dX8_isAmong_9 (by decide) ?_
    refine Z.goto (pc := 10) (tgt := 14) dX8_isAmong_10 (by decide) ?_
    refine Z.iret (pc := 14) (ty := .boolean) dX8_isAmong_14 rfl (by first | rfl | exact zb_nar _) ?_
    first | exact ⟨zb_t rfl (zb_1.mp c6), rfl⟩ | exact ⟨zb_f rfl (by cases q : m.testBit g with | false => rfl | true => exact absurd (by rw [q]; rfl) c6), rfl⟩
