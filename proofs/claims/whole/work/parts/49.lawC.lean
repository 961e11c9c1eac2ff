/-! THE LAW'S LOOP -/
theorem and31 (x : Int32) : ∃ j, j < 32 ∧ x &&& 31 = nI j := by
  refine ⟨(x &&& 31).toBitVec.toNat, ?_, ?_⟩
  · have e : (x &&& 31).toBitVec = x.toBitVec &&& 31#32 := rfl
    rw [e, BitVec.toNat_and]
    exact Nat.and_lt_two_pow (n := 5) _ (by decide)
  · apply Int32.toBitVec_inj.1
    show (x &&& 31).toBitVec = BitVec.ofNat 32 (x &&& 31).toBitVec.toNat
    apply BitVec.eq_of_toNat_eq
    rw [BitVec.toNat_ofNat, Nat.mod_eq_of_lt (BitVec.isLt _)]
theorem law_cmp {L i : Nat} (hL : L ≤ 2048) (hi : i ≤ 4096) : nI L - nI 4 < nI i ↔ L < i + 4 := by
  have e : (nI L - nI 4).toInt = (L : Int) - 4 := by
    rw [Int32.toInt_sub, nI_toInt (by omega), nI_toInt (by decide)]
    exact Int.bmod_eq_of_le (by omega) (by omega)
  rw [Int32.lt_iff_toInt_lt, e, nI_toInt (by omega)]
  omega
theorem law_body {L : Nat} {xs : Nat → Int32} {h : hp} {i : Nat} (hL : L ≤ 2048) (hi : i + 4 ≤ L) {S : zS} (hD : D h S) (hM : MS h S) (hS : OkS S) (hnp : npS S < 2 ^ 31) {j : Nat} (hj : j < 32)
    (kk : ∀ h' S', D h' S' → MS h' S' → OkS S' → npS S' ≤ npS S + 1 → Y L xs 703 (LV i) [] h') : Y L xs 32 (LV i) [.int (nI j)] h := by
  by_cases h24 : j < 24
  · rcases (show j = 0 ∨ j = 1 ∨ j = 2 ∨ j = 3 ∨ j = 4 ∨ j = 5 ∨ j = 6 ∨ j = 7 ∨ j = 8 ∨ j = 9 ∨ j = 10 ∨ j = 11 ∨ j = 12 ∨ j = 13 ∨ j = 14 ∨ j = 15 ∨ j = 16 ∨ j = 17 ∨ j = 18 ∨ j = 19 ∨ j = 20 ∨ j = 21 ∨ j = 22 ∨ j = 23 by omega) with rfl | rfl | rfl | rfl | rfl | rfl | rfl | rfl | rfl | rfl | rfl | rfl | rfl | rfl | rfl | rfl | rfl | rfl | rfl | rfl | rfl | rfl | rfl | rfl
    · exact Y.tabIn (off := 112) (tgt := 144) dL_law_32 (by decide +kernel) (by decide +kernel) (by decide +kernel) rfl (lk_letter hL hi hD hM hS (fun h' q1 q2 => kk h' _ q1 q2 (ok_letter hS (xs (i + 1))) (np_letter (xs (i + 1)))))
    · exact Y.tabIn (off := 135) (tgt := 167) dL_law_32 (by decide +kernel) (by decide +kernel) (by decide +kernel) rfl (lk_blank hL hi hD hM hS (fun h' q1 q2 => kk h' _ q1 q2 (ok_blank hS) (np_blank)))
    · exact Y.tabIn (off := 148) (tgt := 180) dL_law_32 (by decide +kernel) (by decide +kernel) (by decide +kernel) rfl (lk_fault hL hi hD hM hS (fun h' q1 q2 => kk h' _ q1 q2 (ok_fault hS) (np_fault)))
    · exact Y.tabIn (off := 161) (tgt := 193) dL_law_32 (by decide +kernel) (by decide +kernel) (by decide +kernel) rfl (lk_party hL hi hD hM hS (fun h' q1 q2 => kk h' _ q1 q2 (ok_party hS) (np_party)))
    · exact Y.tabIn (off := 174) (tgt := 206) dL_law_32 (by decide +kernel) (by decide +kernel) (by decide +kernel) rfl (lk_guest hL hi hD hM hS (fun h' q1 q2 => kk h' _ q1 q2 (ok_guest hS (xs (i + 1)) (xs (i + 2))) (np_guest (xs (i + 1)) (xs (i + 2)))))
    · exact Y.tabIn (off := 207) (tgt := 239) dL_law_32 (by decide +kernel) (by decide +kernel) (by decide +kernel) rfl (lk_as hL hi hD hM hS (fun h' q1 q2 => kk h' _ q1 q2 (ok_as hS (xs (i + 1)) (xs (i + 2))) (np_as (xs (i + 1)) (xs (i + 2)))))
    · exact Y.tabIn (off := 240) (tgt := 272) dL_law_32 (by decide +kernel) (by decide +kernel) (by decide +kernel) rfl (lk_rise hL hi hD hM hS (fun h' q1 q2 => kk h' _ q1 q2 (ok_rise hS (xs (i + 1))) (np_rise (xs (i + 1)))))
    · exact Y.tabIn (off := 263) (tgt := 295) dL_law_32 (by decide +kernel) (by decide +kernel) (by decide +kernel) rfl (lk_hour hL hi hD hM hS (fun h' q1 q2 => kk h' _ q1 q2 (ok_hour hS) (np_hour)))
    · exact Y.tabIn (off := 276) (tgt := 308) dL_law_32 (by decide +kernel) (by decide +kernel) (by decide +kernel) rfl (lk_hint hL hi hD hM hS (fun h' q1 q2 => kk h' _ q1 q2 (ok_hint hS (xs (i + 1))) (np_hint (xs (i + 1)))))
    · exact Y.tabIn (off := 299) (tgt := 331) dL_law_32 (by decide +kernel) (by decide +kernel) (by decide +kernel) rfl (lk_back hL hi hD hM hS (fun h' q1 q2 => kk h' _ q1 q2 (ok_back hS (xs (i + 1))) (np_back (xs (i + 1)))))
    · exact Y.tabIn (off := 322) (tgt := 354) dL_law_32 (by decide +kernel) (by decide +kernel) (by decide +kernel) rfl (lk_feed hL hi hD hM hS (fun h' q1 q2 => kk h' _ q1 q2 (ok_feed hS (xs (i + 1))) (np_feed (xs (i + 1)))))
    · exact Y.tabIn (off := 345) (tgt := 377) dL_law_32 (by decide +kernel) (by decide +kernel) (by decide +kernel) rfl (lk_turn hL hi hD hM hS (fun h' q1 q2 => kk h' _ q1 q2 (ok_turn hS (xs (i + 1)) (xs (i + 2)) (xs (i + 3))) (np_turn (xs (i + 1)) (xs (i + 2)) (xs (i + 3)))))
    · exact Y.tabIn (off := 388) (tgt := 420) dL_law_32 (by decide +kernel) (by decide +kernel) (by decide +kernel) rfl (lk_most hL hi hD hM hS (fun h' q1 q2 => kk h' _ q1 q2 (ok_most hS) (np_most)))
    · exact Y.tabIn (off := 401) (tgt := 433) dL_law_32 (by decide +kernel) (by decide +kernel) (by decide +kernel) rfl (lk_least hL hi hD hM hS (fun h' q1 q2 => kk h' _ q1 q2 (ok_least hS) (np_least)))
    · exact Y.tabIn (off := 414) (tgt := 446) dL_law_32 (by decide +kernel) (by decide +kernel) (by decide +kernel) rfl (lk_hire hL hi hD hM hS (fun h' q1 q2 => kk h' _ q1 q2 (ok_hire hS (xs (i + 1))) (np_hire (xs (i + 1)))))
    · exact Y.tabIn (off := 437) (tgt := 469) dL_law_32 (by decide +kernel) (by decide +kernel) (by decide +kernel) rfl (lk_ends hL hi hD hM hS (fun h' q1 q2 => kk h' _ q1 q2 (ok_ends hS) (np_ends)))
    · exact Y.tabIn (off := 450) (tgt := 482) dL_law_32 (by decide +kernel) (by decide +kernel) (by decide +kernel) rfl (lk_odds hL hi hD hM hS (fun h' q1 q2 => kk h' _ q1 q2 (ok_odds hS (xs (i + 1)) (xs (i + 2)) (xs (i + 3))) (np_odds (xs (i + 1)) (xs (i + 2)) (xs (i + 3)))))
    · exact Y.tabIn (off := 493) (tgt := 525) dL_law_32 (by decide +kernel) (by decide +kernel) (by decide +kernel) rfl (lk_see hL hi hD hM hS (fun h' q1 q2 => kk h' _ q1 q2 (ok_see hS (xs (i + 1)) (xs (i + 2)) (decide (¬ xs (i + 3) = 0))) (np_see (xs (i + 1)) (xs (i + 2)) (decide (¬ xs (i + 3) = 0)))))
    · exact Y.tabIn (off := 552) (tgt := 584) dL_law_32 (by decide +kernel) (by decide +kernel) (by decide +kernel) rfl (lk_forget hL hi hD hM hS (fun h' q1 q2 => kk h' _ q1 q2 (ok_forget hS) (np_forget)))
    · exact Y.tabIn (off := 565) (tgt := 597) dL_law_32 (by decide +kernel) (by decide +kernel) (by decide +kernel) rfl (lk_nights hL hi hD hM hS (fun h' q1 q2 => kk h' _ q1 q2 (ok_nights hS (xs (i + 1)) (xs (i + 2)) (xs (i + 3))) (np_nights (xs (i + 1)) (xs (i + 2)) (xs (i + 3)))))
    · exact Y.tabIn (off := 608) (tgt := 640) dL_law_32 (by decide +kernel) (by decide +kernel) (by decide +kernel) rfl (lk_image hL hi hD hM hS (fun h' q1 q2 => kk h' _ q1 q2 (ok_image hS) (np_image)))
    · exact Y.tabIn (off := 621) (tgt := 653) dL_law_32 (by decide +kernel) (by decide +kernel) (by decide +kernel) rfl (lk_restore hL hi hD hM hS hnp (fun h' q1 q2 => kk h' _ q1 q2 (ok_restore hS) (np_restore)))
    · exact Y.tabIn (off := 634) (tgt := 666) dL_law_32 (by decide +kernel) (by decide +kernel) (by decide +kernel) rfl (lk_count hL hi hD hM hS (fun h' q1 q2 => kk h' _ q1 q2 (ok_count hS (xs (i + 1))) (np_count (xs (i + 1)))))
    · exact Y.tabIn (off := 657) (tgt := 689) dL_law_32 (by decide +kernel) (by decide +kernel) (by decide +kernel) rfl (lk_digest hL hi hD hM hS (fun h' q1 q2 => kk h' _ q1 q2 (ok_digest hS) (np_digest)))
  · refine Y.tabOut (tgt := 703) dL_law_32 (Or.inr ?_) rfl (kk h S hD hM hS (by omega))
    rw [nI_toInt (by omega)]
    omega
theorem law_loop {L : Nat} {xs : Nat → Int32} (hL : L ≤ 2048) : ∀ (n i : Nat) (h : hp) (S : zS), i ≤ 4096 → L ≤ i + n → D h S → MS h S → OkS S → npS S ≤ i → Y L xs 18 (LV i) [] h := by
  have step : ∀ (i : Nat) (h : hp), i ≤ 4096 → (i + 4 ≤ L → Y L xs 26 (LV i) [] h) → Y L xs 18 (LV i) [] h := by
    intro i h hi k
    refine Y.iload_n dL_law_18 rfl rfl ?_
    refine Y.aload_n dL_law_19 rfl rfl ?_
    refine Y.slen dL_law_20 ?_
    refine Y.iconst dL_law_21 (v := nI 4) rfl ?_
    refine Y.isub dL_law_22 ?_
    refine Y.icmp_gt (tgt := 709) dL_law_23 rfl (fun _ => ?_) (fun q => k ?_)
    · refine Y.iconst dL_law_709 (v := 1) rfl ?_
      exact Y.ret1 dL_law_710
    · have := mt (law_cmp hL hi).mpr q
      omega
  intro n
  induction n with
  | zero =>
    intro i h S hi hn hD hM hS hnp
    exact step i h hi (fun q => by omega)
  | succ n ih =>
    intro i h S hi hn hD hM hS hnp
    refine step i h hi (fun q => ?_)
    refine Y.aload_n dL_law_26 rfl rfl ?_
    refine Y.iload_n dL_law_27 rfl rfl ?_
    refine Y.sld dL_law_28 (by omega) hL ?_
    refine Y.bipush dL_law_29 (v := 31) (by decide) ?_
    refine Y.iand dL_law_31 ?_
    obtain ⟨j, hj, ej⟩ := and31 (xs i)
    refine Y.top ej ?_
    refine law_body hL q hD hM hS (by omega) hj (fun h' S' q1 q2 q3 q4 => ?_)
    refine Y.iinc dL_law_703 (x := nI i) (v := nI (i + 4)) rfl (nI_add i 4) (by decide) rfl ?_
    refine Y.goto (tgt := 18) dL_law_706 rfl ?_
    exact ih (i + 4) h' S' (by omega) (by omega) q1 q2 q3 (by omega)
