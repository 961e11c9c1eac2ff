def ghX (h : hp) (s' : zF) (fd hr : Nat) : hp := z_up (z_row (z_up h 30 2 (nI fd)) 32 s') 30 4 (nI hr)
theorem fa_m1 {k s f : zF} {n hr : Nat} (h : faI k s f n hr = -1) (hl : alo k s f n hr < 256) : alo k s f n hr = 0 := by
  unfold faI at h
  by_cases e : alo k s f n hr = 0
  · exact e
  · rw [if_neg e] at h
    have hb : fst8 (alo k s f n hr) ≤ 8 := by have := fst_le (alo k s f n hr).testBit 8 0; unfold fst8; omega
    exact absurd h (fun z => by
      have h2 := congrArg Int32.toInt z
      rw [nI_toInt (by omega)] at h2
      have e1 : (-1 : Int32).toInt = -1 := rfl
      omega)
theorem fa_nI {k s f : zF} {n hr : Nat} (h : ¬ faI k s f n hr = -1) : ¬ alo k s f n hr = 0 ∧ faI k s f n hr = nI (fst8 (alo k s f n hr)) := by
  have h0 : ¬ alo k s f n hr = 0 := fun e => h (by unfold faI; rw [if_pos e])
  exact ⟨h0, by unfold faI; rw [if_neg h0]⟩
theorem Mm_gh {h : hp} {n hr hr' fd : Nat} {k s s' f : zF} (hM : Mm h n hr k s f) (hK : Rk n k s' f) (hl : hr' < 2 ^ n) : Mm (ghX h s' fd hr') n hr' k s' f := Mm_here (Mm_shy (Mm_up hM (by decide) (by decide)) hK) hl
theorem rd8 {f g : zF} (hf : dZ8 f) (hg : dZ8 g) : rdR f g 8 = f := by
  funext j
  unfold rdR
  by_cases h : j < 8
  · rw [if_pos h]
  · rw [if_neg h, hf j (by omega), hg j (by omega)]
/-- the reference under trial: the party's own cells move, the saved ones and all else stay -/
def TM (h : hp) (n : Nat) (k f : zF) (hh : hp) (st : zF × Nat × Nat) : Prop := Mm hh n st.2.1 k st.1 f ∧ hh.1 30 2 = nI st.2.2 ∧ st.2.2 ≤ 99 ∧ dZ8 st.1 ∧ (∀ r, r ≠ 30 ∧ r ≠ 32 → hh.1 r = h.1 r) ∧ ∀ j, j ≠ 2 ∧ j ≠ 4 → hh.1 30 j = h.1 30 j
theorem TM_step {h hh : hp} {n : Nat} {k f : zF} {st : zF × Nat × Nat} (hT : TM h n k f hh st) : TM h n k f (ghX hh (hsS st.1 st.2.1 st.2.2) (st.2.2 - pop st.2.1) (hsH k st.1 f n st.2.1 st.2.2)) (hrSt k f n st) := by
  obtain ⟨h1, h2, h3, h4, h5, h6⟩ := hT
  have hp := p8 h1.2.2.2.1.1
  have hl := h1.2.2.1
  refine ⟨Mm_gh h1 (Rk_hs h1.2.2.2.1 _ _) (hsH_lt h1.2.2.1), rfl, ?_, dZ8_hs h4 (by omega), fun r hr => ?_, fun j hj => ?_⟩
  · show st.2.2 - pop st.2.1 ≤ 99; omega
  · unfold ghX; rw [z_up_ne hr.1, z_row_ne hr.2, z_up_ne hr.1]; exact h5 r hr
  · unfold ghX; rw [z_up_nf hj.2, z_row_ne (by decide), z_up_nf hj.1]; exact h6 j hj
def svX (h : hp) (s : zF) : hp := z_up (z_up (z_row h 38 s) 30 17 (h.1 30 4)) 30 18 (h.1 30 2)
def ldX (h : hp) (s : zF) (hr fd : Nat) : hp := z_up (z_up (z_row h 32 s) 30 4 (nI hr)) 30 2 (nI fd)
def sdL (s : Nat) : Int64 := lN s
theorem l_and {a : Nat} : lN a &&& 2147483647 = lN (a % 2147483648) := by
  apply Int64.toBitVec_inj.1
  apply BitVec.eq_of_toNat_eq
  show ((BitVec.ofNat 64 a) &&& (BitVec.ofNat 64 2147483647)).toNat = (BitVec.ofNat 64 (a % 2147483648)).toNat
  rw [BitVec.toNat_and, BitVec.toNat_ofNat, BitVec.toNat_ofNat, BitVec.toNat_ofNat]
  rw [show (2147483647 % 2 ^ 64 : Nat) = 2 ^ 31 - 1 from by decide, Nat.and_two_pow_sub_one_eq_mod]
  omega
theorem alo_cnt {k s f : zF} {n hr : Nat} (hn : n ≤ 8) (hl : hr < 2 ^ n) : cntB (alB k s f n hr) n = pop (alo k s f n hr) := by
  have h1 : pop (alo k s f n hr) = cntB (alB k s f n hr) 8 := by
    have ha : alo k s f n hr < 2 ^ 8 := orb_lt _ 8
    show cntB _ 8 + ((alo k s f n hr).testBit 8).toNat + ((alo k s f n hr).testBit 9).toNat = _
    rw [bit_lt ha (by decide), bit_lt ha (by decide)]
    exact cntB_congr (fun i hi => by unfold alo; rw [orb_bit, decide_eq_true hi, Bool.true_and])
  rw [h1]
  have key : ∀ m, cntB (alB k s f n hr) (n + m) = cntB (alB k s f n hr) n := by
    intro m
    induction m with
    | zero => rfl
    | succ m ih =>
      show cntB _ (n + m) + (alB k s f n hr (n + m)).toNat = _
      rw [ih]
      unfold alB
      rw [bit_lt hl (by omega)]
      rfl
  have := key (8 - n)
  rw [show n + (8 - n) = 8 by omega] at this
  exact this.symm
