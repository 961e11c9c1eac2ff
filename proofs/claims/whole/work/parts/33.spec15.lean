/-! what the reference has seen -/
def Me (h : hp) (sz : Nat) (sg so se : zF) : Prop := h.1 30 8 = nI sz ∧ h.1 34 = sg ∧ h.1 35 = so ∧ h.1 36 = se
theorem zb_inj {a b : Bool} : zb a = zb b ↔ a = b := by cases a <;> cases b <;> decide
theorem sh_0 {sg so se : zF} {g k : Int32} {a : Nat} (ha : a < 10) : (shF sg so se g k 0).testBit a = true := (by decide : ∀ a, a < 10 → (1023 : Nat).testBit a = true) a ha
theorem sh_n {sg so se : zF} {g k : Int32} {a j : Nat} (h : ¬ sg j = g) : (shF sg so se g k (j + 1)).testBit a = (shF sg so se g k j).testBit a := by
  show (if _ then _ else _ : Nat).testBit a = _
  rw [if_neg h]
theorem stg_bit {k ot : Int32} {a : Nat} (ha : a < 10) : (stg k ot).testBit a = decide (ndsI k (nI a) ≤ ot) := by
  unfold stg
  rw [orb_bit, decide_eq_true ha, Bool.true_and]
theorem sh_s {sg so se : zF} {g k : Int32} {a j : Nat} (ha : a < 10) (h : sg j = g) (he : se j = 0 ∨ se j = 1) : (shF sg so se g k (j + 1)).testBit a = ((shF sg so se g k j).testBit a && (decide (ndsI k (nI a) ≤ so j) == decide (se j = 1))) := by
  show (if _ then _ else _ : Nat).testBit a = _
  rw [if_pos h]
  rcases he with e | e
  · rw [if_pos e, dif_bit, stg_bit ha, e]
    rw [show decide ((0 : Int32) = 1) = false from by decide]
    cases decide (ndsI k (nI a) ≤ so j) <;> rfl
  · rw [if_neg (by rw [e]; decide), Nat.testBit_and, stg_bit ha, e]
    rw [show decide ((1 : Int32) = 1) = true from by decide]
    cases decide (ndsI k (nI a) ≤ so j) <;> rfl
theorem sh_z {sg so se : zF} {g k : Int32} {a j : Nat} (h : (shF sg so se g k j).testBit a = false) : (shF sg so se g k (j + 1)).testBit a = false := by
  show (if _ then (if _ then _ else _) else _ : Nat).testBit a = _
  split
  · split
    · rw [dif_bit, h]; rfl
    · rw [Nat.testBit_and, h]; rfl
  · exact h
theorem sh_orb (sg so se : zF) (g k : Int32) (j : Nat) : orb (shF sg so se g k j).testBit 10 = shF sg so se g k j := by
  apply eq_bits 10 (orb_lt _ 10) (shF_lt sg so se g k j)
  intro i hi
  rw [orb_bit, decide_eq_true hi, Bool.true_and]
/-! asking -/
def lfI (k : Int32) (m : Nat) : Nat → Int32
  | 0 => 268435456
  | i + 1 => nI (asF k m (i + 1)).2
theorem lf_lt {k : Int32} {m : Nat} (i : Nat) : lfI k m i ≤ nI (asL k m i) ↔ ¬ asL k m i < (asF k m i).2 := by
  have h1 := asL_le k m i
  have h2 := asF_le k m i
  cases i with
  | zero => exact ⟨fun z => absurd z (nI_ge (b := 268435456) (by omega) (by decide)), fun z => absurd (show asL k m 0 < 11 by omega) z⟩
  | succ i =>
    show nI (asF k m (i + 1)).2 ≤ _ ↔ _
    rw [nI_leI (by omega) (by omega)]
    omega
theorem as_keep {k : Int32} {m i : Nat} (c : lfI k m i ≤ nI (asL k m i)) : lfI k m i = lfI k m (i + 1) ∧ (asF k m i).1 = (asF k m (i + 1)).1 := by
  have h := (lf_lt i).mp c
  have e : asF k m (i + 1) = asF k m i := by
    show (if _ then _ else _) = _
    rw [if_neg h]
  refine ⟨?_, by rw [e]⟩
  show _ = nI (asF k m (i + 1)).2
  rw [e]
  cases i with
  | zero => exact absurd (show asL k m 0 < 11 by have := asL_le k m 0; omega) h
  | succ i => rfl
theorem as_take {k : Int32} {m i : Nat} (c : ¬ lfI k m i ≤ nI (asL k m i)) : nI (asL k m i) = lfI k m (i + 1) ∧ nI i = (asF k m (i + 1)).1 := by
  have h : asL k m i < (asF k m i).2 := by
    by_cases q : asL k m i < (asF k m i).2
    · exact q
    · exact absurd ((lf_lt i).mpr q) c
  have e : asF k m (i + 1) = (nI i, asL k m i) := by
    show (if _ then _ else _) = _
    rw [if_pos h]
  refine ⟨?_, by rw [e]⟩
  show _ = nI (asF k m (i + 1)).2
  rw [e]
def yesB (k : Int32) (m i a : Nat) : Bool := m.testBit a && decide (ndsI k (nI a) ≤ nI i)
theorem yes_pop {k : Int32} {m i : Nat} : cntB (yesB k m i) 10 = pop (m &&& stg k (nI i)) := cntB_congr (fun a ha => by rw [Nat.testBit_and, stg_bit ha]; rfl)
theorem cnt_sub {m b : Nat} : ∀ n, cntB (dif m b).testBit n + cntB (m &&& b).testBit n = cntB m.testBit n
  | 0 => rfl
  | n + 1 => by
    have ih := cnt_sub (m := m) (b := b) n
    show cntB _ n + ((dif m b).testBit n).toNat + (cntB _ n + ((m &&& b).testBit n).toNat) = cntB _ n + (m.testBit n).toNat
    rw [dif_bit, Nat.testBit_and]
    cases m.testBit n <;> cases b.testBit n <;> simp <;> omega
theorem and_self2 (m b : Nat) : m &&& (m &&& b) = m &&& b := by
  apply Nat.eq_of_testBit_eq
  intro i
  simp only [Nat.testBit_and]
  cases m.testBit i <;> simp
theorem pop_no {m b : Nat} : pop (dif m (m &&& b)) = pop m - pop (m &&& b) := by
  have := cnt_sub (m := m) (b := m &&& b) 10
  rw [and_self2] at this
  unfold pop
  omega
/-! chances -/
def sl (f : Nat → Nat) : List Nat → Nat
  | [] => 0
  | x :: l => f x + sl f l
def dn : Nat → List Nat
  | 0 => []
  | n + 1 => n :: dn n
theorem sum_sl (f : Nat → Nat) : ∀ n, sumN f n = sl f (dn n)
  | 0 => rfl
  | n + 1 => by
    show sumN f n + f n = f n + sl f (dn n)
    rw [sum_sl f n, Nat.add_comm]
theorem sl_perm {f : Nat → Nat} {l l' : List Nat} (h : l.Perm l') : sl f l = sl f l' := by
  induction h with
  | nil => rfl
  | cons x _ ih => show f x + _ = f x + _; rw [ih]
  | swap x y l => show f _ + (f _ + _) = f _ + (f _ + _); omega
  | trans _ _ ih1 ih2 => exact ih1.trans ih2
theorem sl_map {f g : Nat → Nat} : ∀ l : List Nat, sl f (l.map g) = sl (fun x => f (g x)) l
  | [] => rfl
  | x :: l => by show f (g x) + _ = f (g x) + _; rw [sl_map l]
theorem xor_perm : ∀ g, g < 8 → ((dn 256).map (fun m => m ^^^ 2 ^ g)).isPerm (dn 256) = true := by decide +kernel
theorem sum_xor (f : Nat → Nat) {g : Nat} (hg : g < 8) : sumN (fun m => f (m ^^^ 2 ^ g)) 256 = sumN f 256 := by
  rw [sum_sl, sum_sl, ← sl_map (f := f) (g := fun m => m ^^^ 2 ^ g)]
  exact sl_perm (List.isPerm_iff.mp (xor_perm g hg))
theorem sumN_ext {f g : Nat → Nat} : ∀ {n : Nat}, (∀ i, i < n → f i = g i) → sumN f n = sumN g n
  | 0, _ => rfl
  | n + 1, h => by
    show sumN f n + f n = sumN g n + g n
    rw [sumN_ext (fun i hi => h i (by omega)), h n (by omega)]
theorem sumN_lim {f : Nat → Nat} {n : Nat} : ∀ k, (∀ i, n ≤ i → f i = 0) → sumN f (n + k) = sumN f n
  | 0, _ => rfl
  | k + 1, h => by
    show sumN f (n + k) + f (n + k) = _
    rw [sumN_lim k h, h (n + k) (by omega), Nat.add_zero]
def otN (hr g : Nat) : Nat := dif hr (2 ^ g)
def prN (ot aw tn : Nat) : Nat → Nat
  | 0 => 1
  | e + 1 => prN ot aw tn e * cond (ot.testBit e) (cond (aw.testBit e) (10 - tn) tn) 1
theorem pr_pow {ot aw tn : Nat} : ∀ e, prN ot aw tn e = (10 - tn) ^ cntB (ot &&& aw).testBit e * tn ^ cntB (dif ot aw).testBit e
  | 0 => by simp [prN, cntB]
  | e + 1 => by
    show prN ot aw tn e * _ = (10 - tn) ^ (cntB _ e + ((ot &&& aw).testBit e).toNat) * tn ^ (cntB _ e + ((dif ot aw).testBit e).toNat)
    rw [pr_pow e, dif_bit, Nat.testBit_and]
    cases ot.testBit e with
    | false => simp
    | true =>
      cases aw.testBit e with
      | false => simp [Nat.pow_succ, Nat.mul_assoc]
      | true =>
        simp only [cond_true, Bool.and_self, Bool.toNat_true, Bool.not_true, Bool.and_false, Bool.toNat_false, Nat.add_zero, Nat.pow_succ]
        rw [Nat.mul_assoc, Nat.mul_comm (tn ^ _) (10 - tn), ← Nat.mul_assoc]
theorem cnt_lim {c : Nat → Bool} {n : Nat} (hn : n ≤ 10) (h : ∀ i, n ≤ i → c i = false) : cntB c n = cntB c 10 := by
  have key : ∀ m, cntB c (n + m) = cntB c n := by
    intro m
    induction m with
    | zero => rfl
    | succ m ih =>
      show cntB c (n + m) + (c (n + m)).toNat = _
      rw [ih, h (n + m) (by omega)]
      rfl
  have := key (10 - n)
  rw [show n + (10 - n) = 10 by omega] at this
  exact this.symm
theorem pop_or {aw g : Nat} (hb : aw.testBit g = false) (hg : g < 10) : pop (aw ||| 2 ^ g) = pop aw + 1 := by
  have h1 : (aw ||| 2 ^ g).testBit g = true := by rw [Nat.testBit_or, two_bit, decide_eq_true rfl]; simp
  have h2 := pop_dif h1 hg
  have e : dif (aw ||| 2 ^ g) (2 ^ g) = aw := by
    apply Nat.eq_of_testBit_eq
    intro i
    rw [dif_bit, Nat.testBit_or, two_bit]
    by_cases q : g = i
    · subst q; rw [hb]; simp
    · simp [q]
  rw [e] at h2
  exact h2.symm
theorem ot_g {hr g : Nat} : (otN hr g).testBit g = false := by
  unfold otN
  rw [dif_bit, two_bit, decide_eq_true rfl]
  simp
theorem pr_wt {n hr g aw tn : Nat} (hn : n ≤ 8) (hl : hr < 2 ^ n) (hg : hr.testBit g = true) (ha : dif aw (otN hr g) = 0) : prN (otN hr g) aw tn n = wtN (pop hr - 1) tn (pop (aw ||| 2 ^ g) - 1) := by
  have hgn := tb_lt hl hg
  have hol : otN hr g < 2 ^ n := dif_lt hl
  have hag : aw.testBit g = false := by
    cases q : aw.testBit g with
    | false => rfl
    | true => have := ch_bit ha q; rw [ot_g] at this; cases this
  have e1 : otN hr g &&& aw = aw := by
    apply Nat.eq_of_testBit_eq
    intro i
    rw [Nat.testBit_and]
    cases q : aw.testBit i with
    | false => simp
    | true => rw [ch_bit ha q]; rfl
  have p1 := pop_dif hg (show g < 10 by omega)
  have p2 := pop_or hag (show g < 10 by omega)
  have c1 := cnt_sub (m := otN hr g) (b := aw) 10
  rw [e1] at c1
  have haw : aw < 2 ^ n := Nat.lt_of_le_of_lt (ch_le ha) hol
  rw [pr_pow, e1, cnt_lim (c := aw.testBit) (by omega) (fun i hi => bit_lt haw hi), cnt_lim (c := (dif (otN hr g) aw).testBit) (by omega) (fun i hi => bit_lt (dif_lt hol) hi)]
  unfold wtN
  have h3 : pop (otN hr g) + 1 = pop hr := p1
  unfold pop at h3 p2 ⊢
  rw [show cntB hr.testBit 10 - 1 = cntB (otN hr g).testBit 10 by omega, p2, Nat.add_sub_cancel, ← c1, Nat.add_sub_cancel]
def awB (k s f : zF) (n hr g aw : Nat) : Bool := decide (dif aw (otN hr g) = 0) && (mst k s f n hr (aw ||| 2 ^ g)).testBit g
def awN (k s f : zF) (n hr g tn : Nat) : Nat → Nat := sumN (fun aw => cond (awB k s f n hr g aw) (prN (otN hr g) aw tn n) 0)
theorem aw_ab {k s f : zF} {n hr g tn : Nat} (hn : n ≤ 8) (hl : hr < 2 ^ n) (hg : hr.testBit g = true) : awN k s f n hr g tn (otN hr g + 1) = abN k s f n hr g tn (hr + 1) := by
  have hp := p8 hn
  have hgn := tb_lt hl hg
  have hol : otN hr g < 2 ^ n := dif_lt hl
  have h1 : awN k s f n hr g tn (otN hr g + 1) = awN k s f n hr g tn 256 := by
    unfold awN
    have := sumN_lim (f := fun aw => cond (awB k s f n hr g aw) (prN (otN hr g) aw tn n) 0) (n := otN hr g + 1) (256 - (otN hr g + 1)) (fun i hi => by
      have : awB k s f n hr g i = false := by
        unfold awB
        rw [decide_eq_false (fun z => by have := ch_le z; omega)]
        rfl
      simp only [this, cond_false])
    rw [show otN hr g + 1 + (256 - (otN hr g + 1)) = 256 by omega] at this
    exact this.symm
  have h2 : abN k s f n hr g tn (hr + 1) = abN k s f n hr g tn 256 := by
    unfold abN
    have := sumN_lim (f := fun m => cond (abB k s f n hr g m) (wtN (pop hr - 1) tn (pop m - 1)) 0) (n := hr + 1) (256 - (hr + 1)) (fun i hi => by
      have : abB k s f n hr g i = false := by
        unfold abB chB
        rw [decide_eq_false (fun z => by have := ch_le z; omega)]
        rfl
      simp only [this, cond_false])
    rw [show hr + 1 + (256 - (hr + 1)) = 256 by omega] at this
    exact this.symm
  rw [h1, h2]
  unfold abN
  rw [← sum_xor _ (show g < 8 by omega)]
  unfold awN
  refine sumN_ext (fun m _ => ?_)
  cases hb : m.testBit g with
  | true =>
    have e1 : awB k s f n hr g m = false := by
      unfold awB
      rw [decide_eq_false (fun z => by have := ch_bit z hb; rw [ot_g] at this; cases this)]
      rfl
    have e2 : abB k s f n hr g (m ^^^ 2 ^ g) = false := by
      unfold abB
      cases q : (mst k s f n hr (m ^^^ 2 ^ g)).testBit g with
      | false => simp
      | true =>
        have := mst_sub q
        rw [Nat.testBit_xor, hb, two_bit, decide_eq_true rfl] at this
        cases this
    simp only [e1, e2, cond_false]
  | false =>
    have e0 : m ^^^ 2 ^ g = m ||| 2 ^ g := by
      apply Nat.eq_of_testBit_eq
      intro i
      rw [Nat.testBit_xor, Nat.testBit_or, two_bit]
      by_cases q : g = i
      · subst q; rw [hb]; simp
      · simp [q]
    have e1 : decide (dif m (otN hr g) = 0) = chB hr (m ||| 2 ^ g) := by
      unfold chB
      rw [decide_eq_decide]
      refine ⟨fun z => ch_of (fun i hi => ?_), fun z => ch_of (fun i hi => ?_)⟩
      · rw [Nat.testBit_or, two_bit] at hi
        by_cases q : g = i
        · subst q; exact hg
        · simp only [q, decide_false, Bool.or_false] at hi
          have := ch_bit z hi
          unfold otN at this
          rw [dif_bit] at this
          simp only [Bool.and_eq_true] at this
          exact this.1
      · have h3 := ch_bit z (show (m ||| 2 ^ g).testBit i = true from by rw [Nat.testBit_or, hi]; rfl)
        unfold otN
        rw [dif_bit, h3, two_bit]
        by_cases q : g = i
        · subst q; rw [hb] at hi; cases hi
        · simp [q]
    have e2 : awB k s f n hr g m = abB k s f n hr g (m ^^^ 2 ^ g) := by
      unfold awB abB
      rw [e0, e1]
    rw [e2, e0]
    cases q : abB k s f n hr g (m ||| 2 ^ g) with
    | false => rfl
    | true =>
      have hd : dif m (otN hr g) = 0 := by
        unfold abB at q
        rw [← e1] at q
        simp only [Bool.and_eq_true, decide_eq_true_eq] at q
        exact q.1
      exact pr_wt hn hl hg hd
