def rdB (h : hp) (n : Nat) : hp := z_up (z_up (z_up (z_up h 3 3 (nI n)) 3 4 (nI (2 ^ n - 1))) 3 5 (pgD (h.1 2))) 3 6 0
def rdH (h : hp) (n : Nat) : hp := z_r3 (rdB h n) 4 (rdR (pgK (h.1 2)) (h.1 4) n) 5 (rdR (pgS (h.1 2)) (h.1 5) n) 6 (rdR (pgF (h.1 2)) (h.1 6) n)
/-! what is seen -/
theorem nar_zb (b : Bool) : vp_nar .boolean (zb b) = zb b := by cases b <;> rfl
def stg (k ot : Int32) : Nat := orb (fun a => decide (ndsI k (nI a) ≤ ot)) 10
theorem stg_lt (k ot : Int32) : stg k ot < 1024 := orb_lt _ 10
def shF (sg so se : Nat → Int32) (g k : Int32) : Nat → Nat
  | 0 => 1023
  | i + 1 => if sg i = g then (if se i = 0 then dif (shF sg so se g k i) (stg k (so i)) else shF sg so se g k i &&& stg k (so i)) else shF sg so se g k i
theorem shF_lt (sg so se : Nat → Int32) (g k : Int32) : ∀ i, shF sg so se g k i < 1024
  | 0 => by show 1023 < 1024; decide
  | i + 1 => by
    have ih := shF_lt sg so se g k i
    unfold shF
    split
    · split
      · exact dif_lt (n := 10) ih
      · exact and_lt (n := 10) ih
    · exact ih
def asL (k : Int32) (m i : Nat) : Nat := max (pop (m &&& stg k (nI i))) (pop (dif m (m &&& stg k (nI i))))
def asF (k : Int32) (m : Nat) : Nat → Int32 × Nat
  | 0 => (-1, 11)
  | i + 1 => if asL k m i < (asF k m i).2 then (nI i, asL k m i) else asF k m i
def askI (k : Int32) (m : Nat) : Int32 := if m = 0 then -1 else (asF k m 17).1
theorem max_nI {a b : Nat} (ha : a < 2 ^ 31) (hb : b < 2 ^ 31) : maxI (nI a) (nI b) = nI (max a b) := by
  unfold maxI
  rcases Nat.lt_or_ge a b with q | q
  · rw [if_pos (nI_lt q hb), Nat.max_eq_right (by omega)]
  · rw [if_neg (nI_nlt q ha), Nat.max_eq_left q]
theorem asL_le (k : Int32) (m i : Nat) : asL k m i ≤ 10 := Nat.max_le.mpr ⟨pop_le _, pop_le _⟩
theorem asF_le (k : Int32) (m : Nat) : ∀ i, (asF k m i).2 ≤ 11
  | 0 => Nat.le_refl 11
  | i + 1 => by
    unfold asF
    split
    · have := asL_le k m i; show asL k m i ≤ 11; omega
    · exact asF_le k m i
/-! draws -/
def sdN (s : Nat) : Nat := (1103515245 * s + 12345) % 2147483648
theorem sdN_lt (s : Nat) : sdN s < 2 ^ 31 := Nat.mod_lt _ (by decide)
/-! who rises: the table of the most -/
def chB (hr m : Nat) : Bool := decide (dif m hr = 0)
theorem dif_le (m b : Nat) : dif m b ≤ m := by
  have h : dif m b = m &&& dif m b := by
    apply Nat.eq_of_testBit_eq
    intro i
    rw [Nat.testBit_and, dif_bit]
    cases m.testBit i <;> simp
  rw [h]; exact Nat.and_le_left
theorem ch_bit {hr m : Nat} (h : dif m hr = 0) {i : Nat} (hb : m.testBit i = true) : hr.testBit i = true := by
  have e := dif_bit m hr i
  rw [h, hb] at e
  cases q : hr.testBit i with
  | true => rfl
  | false => rw [q] at e; simp at e
theorem ch_of {hr m : Nat} (h : ∀ i, m.testBit i = true → hr.testBit i = true) : dif m hr = 0 := by
  apply Nat.eq_of_testBit_eq
  intro i
  rw [dif_bit, Nat.zero_testBit]
  cases q : m.testBit i with
  | true => rw [h i q]; rfl
  | false => rfl
theorem ch_le {hr m : Nat} (h : dif m hr = 0) : m ≤ hr := by
  have e : m = m &&& hr := by
    apply Nat.eq_of_testBit_eq
    intro i
    rw [Nat.testBit_and]
    cases q : m.testBit i with
    | true => rw [ch_bit h q]; rfl
    | false => rfl
  rw [e]; exact Nat.and_le_right
def lsF (c : Nat → Bool) : Nat → Nat
  | 0 => 0
  | i + 1 => if (c (i + 1) && (decide (lsF c i = 0) || decide (pop (i + 1) < pop (lsF c i)))) = true then i + 1 else lsF c i
theorem lsF_le (c : Nat → Bool) : ∀ i, lsF c i ≤ i
  | 0 => Nat.le_refl 0
  | i + 1 => by
    have := lsF_le c i
    unfold lsF
    split <;> omega
/-- rising: who is left is among them, and from eight rounds on nothing changes -/
theorem wcg_sub {k s f : Nat → Int32} {n hr m i : Nat} (h : (wcg k s f n hr m).testBit i = true) : m.testBit i = true := by
  unfold wcg wcB at h
  rw [orb_bit] at h
  simp only [Bool.and_eq_true] at h
  exact h.2.1
theorem sub_le {a b : Nat} (h : ∀ i, a.testBit i = true → b.testBit i = true) : a ≤ b := ch_le (ch_of h)
theorem cntB_mono {c c' : Nat → Bool} : ∀ {n : Nat}, (∀ i, i < n → c i = true → c' i = true) → cntB c n ≤ cntB c' n
  | 0, _ => Nat.le_refl 0
  | n + 1, h => by
    have ih := cntB_mono (n := n) (fun i hi => h i (by omega))
    have h2 := h n (by omega)
    unfold cntB
    cases hc : c n with
    | false => simp; omega
    | true => rw [h2 hc]; simp; omega
theorem cntB_strict {c c' : Nat → Bool} : ∀ {n : Nat}, (∀ i, i < n → c i = true → c' i = true) → (∃ i, i < n ∧ c i = false ∧ c' i = true) → cntB c n < cntB c' n
  | 0, _, ⟨i, h, _⟩ => absurd h (Nat.not_lt_zero i)
  | n + 1, h, ⟨i, hi, hc, hc'⟩ => by
    by_cases e : i = n
    · subst e
      have ih := cntB_mono (n := i) (fun j hj => h j (by omega))
      unfold cntB
      rw [hc, hc']; simp; omega
    · have ih := cntB_strict (n := n) (fun j hj => h j (by omega)) ⟨i, by omega, hc, hc'⟩
      have h2 := h n (by omega)
      unfold cntB
      cases q : c n with
      | false => simp; omega
      | true => rw [h2 q]; simp; omega
theorem pop_strict {a b : Nat} (hb : b < 1024) (h : ∀ i, a.testBit i = true → b.testBit i = true) (hne : a ≠ b) : pop a < pop b := by
  refine cntB_strict (fun i _ => h i) ?_
  rcases Classical.em (∃ i, i < 10 ∧ a.testBit i = false ∧ b.testBit i = true) with q | q
  · exact q
  · refine absurd ?_ hne
    apply Nat.eq_of_testBit_eq
    intro i
    cases hbi : b.testBit i with
    | false =>
      cases hai : a.testBit i with
      | false => rfl
      | true => rw [h i hai] at hbi; cases hbi
    | true =>
      cases hai : a.testBit i with
      | true => rfl
      | false => exact absurd ⟨i, tb_lt (n := 10) hb hbi, hai, hbi⟩ q
theorem itN_sub {F : Nat → Nat} (hF : ∀ m i, (F m).testBit i = true → m.testBit i = true) : ∀ (r m i : Nat), (itN F r m).testBit i = true → m.testBit i = true
  | 0, _, _, h => h
  | r + 1, m, i, h => hF m i (itN_sub hF r (F m) i h)
theorem itN_pop {F : Nat → Nat} (hF : ∀ m i, (F m).testBit i = true → m.testBit i = true) {m : Nat} (hm : m < 1024) : ∀ r, F (itN F r m) = itN F r m ∨ pop (itN F r m) + r ≤ pop m
  | 0 => Or.inr (Nat.le_refl _)
  | r + 1 => by
    rw [← itN_out]
    rcases itN_pop hF hm r with q | q
    · left; rw [q, q]
    · by_cases e : F (itN F r m) = itN F r m
      · left; rw [e, e]
      · right
        have hlt : itN F r m < 1024 := Nat.lt_of_le_of_lt (sub_le (itN_sub hF r m)) hm
        have := pop_strict hlt (hF _) e
        omega
theorem pop_0 : pop 0 = 0 := by decide
theorem pop_pos {m : Nat} (hm : m < 1024) (h : m ≠ 0) : 0 < pop m := by
  have := pop_strict (a := 0) hm (fun i hi => by rw [Nat.zero_testBit] at hi; cases hi) (Ne.symm h)
  omega
theorem pop8 {m : Nat} (hm : m < 256) : pop m ≤ 8 := by
  have h : cntB m.testBit 10 = cntB m.testBit 8 := by
    show cntB m.testBit 8 + (m.testBit 8).toNat + (m.testBit 9).toNat = _
    rw [bit_lt (n := 8) hm (by decide), bit_lt (n := 8) hm (by decide)]
    rfl
  unfold pop
  rw [h]
  exact cntB_le _ 8
theorem itN_fix {F : Nat → Nat} (hF : ∀ m i, (F m).testBit i = true → m.testBit i = true) {m : Nat} (hm : m < 256) : F (itN F 8 m) = itN F 8 m := by
  rcases itN_pop hF (Nat.lt_trans hm (by decide)) 8 with q | q
  · exact q
  · have h8 := pop8 hm
    have hlt : itN F 8 m < 1024 := Nat.lt_of_le_of_lt (sub_le (itN_sub hF 8 m)) (Nat.lt_trans hm (by decide))
    have hz : itN F 8 m = 0 := by
      rcases Nat.eq_zero_or_pos (itN F 8 m) with z | z
      · exact z
      · have := pop_pos hlt (by omega); omega
    rw [hz]
    apply Nat.eq_of_testBit_eq
    intro i
    rw [Nat.zero_testBit]
    cases e : (F 0).testBit i with
    | false => rfl
    | true => have := hF 0 i e; rw [Nat.zero_testBit] at this; cases this
theorem mst_fix {k s f : Nat → Int32} {n hr m : Nat} (hm : m < 256) : wcg k s f n hr (mst k s f n hr m) = mst k s f n hr m := itN_fix (fun _ _ h => wcg_sub h) hm
theorem mst_step {k s f : Nat → Int32} {n hr m : Nat} (hm : m < 256) : mst k s f n hr (wcg k s f n hr m) = mst k s f n hr m := by
  have h := mst_fix (k := k) (s := s) (f := f) (n := n) (hr := hr) hm
  exact (itN_out (wcg k s f n hr) 8 m).symm.trans h
theorem itN_id {F : Nat → Nat} {m : Nat} (h : F m = m) : ∀ r, itN F r m = m
  | 0 => rfl
  | r + 1 => by unfold itN; rw [h]; exact itN_id h r
theorem mst_id {k s f : Nat → Int32} {n hr m : Nat} (h : wcg k s f n hr m = m) : mst k s f n hr m = m := itN_id h 8
theorem mst_iff {k s f : Nat → Int32} {n hr m : Nat} (hm : m < 256) : mst k s f n hr m = m ↔ wcg k s f n hr m = m := by
  refine ⟨fun h => ?_, mst_id⟩
  have := mst_fix (k := k) (s := s) (f := f) (n := n) (hr := hr) hm
  rw [h] at this
  exact this
theorem mst_sub {k s f : Nat → Int32} {n hr m i : Nat} (h : (mst k s f n hr m).testBit i = true) : m.testBit i = true := itN_sub (fun _ _ h => wcg_sub h) 8 m i h
def riB (k s f : Nat → Int32) (n hr m : Nat) : Bool := chB hr m && decide (wcg k s f n hr m = m)
/-- the table holds the most of each choice -/
def TB (k s f : Nat → Int32) (n hr i : Nat) (t : Nat → Int32) : Prop := ∀ m, m < i → dif m hr = 0 → t m = nI (mst k s f n hr m)
/-! chances -/
def pwI (b : Int32) : Nat → Int32
  | 0 => 1
  | e + 1 => pwI b e * b
theorem pwI_nI (b : Nat) : ∀ e, pwI (nI b) e = nI (b ^ e)
  | 0 => rfl
  | e + 1 => by unfold pwI; rw [pwI_nI b e, pk_mul, Nat.pow_succ]
def wtN (ot tn a : Nat) : Nat := (10 - tn) ^ a * tn ^ (ot - a)
def sumN (f : Nat → Nat) : Nat → Nat
  | 0 => 0
  | n + 1 => sumN f n + f n
def abB (k s f : Nat → Int32) (n hr g m : Nat) : Bool := chB hr m && (mst k s f n hr m).testBit g
def abN (k s f : Nat → Int32) (n hr g tn : Nat) : Nat → Nat := sumN (fun m => cond (abB k s f n hr g m) (wtN (pop hr - 1) tn (pop m - 1)) 0)
theorem wtN_le {ot tn a : Nat} (ho : ot ≤ 7) (ht : tn ≤ 10) (ha : a ≤ ot) : wtN ot tn a ≤ 10 ^ 7 := by
  unfold wtN
  have h1 : (10 - tn) ^ a ≤ 10 ^ a := Nat.pow_le_pow_left (by omega) a
  have h2 : tn ^ (ot - a) ≤ 10 ^ (ot - a) := Nat.pow_le_pow_left ht _
  have h3 : (10 - tn) ^ a * tn ^ (ot - a) ≤ 10 ^ a * 10 ^ (ot - a) := Nat.mul_le_mul h1 h2
  rw [← Nat.pow_add] at h3
  exact Nat.le_trans h3 (Nat.pow_le_pow_right (by decide) (by omega))
theorem sumN_le {f : Nat → Nat} {c : Nat → Bool} {B : Nat} : ∀ {n : Nat}, (∀ i, i < n → f i ≤ (c i).toNat * B) → sumN f n ≤ cntB c n * B
  | 0, _ => by simp [sumN]
  | n + 1, h => by
    have ih := sumN_le (n := n) (fun i hi => h i (by omega))
    have h2 := h n (by omega)
    show sumN f n + f n ≤ (cntB c n + (c n).toNat) * B
    rw [Nat.add_mul]
    omega
theorem cnt128 : ∀ g, g < 8 → cntB (fun m => m.testBit g) 256 = 128 := by decide +kernel
theorem cntB_le2 (c : Nat → Bool) : ∀ {a b : Nat}, a ≤ b → cntB c a ≤ cntB c b
  | a, 0, h => by obtain rfl : a = 0 := by omega
                  exact Nat.le_refl _
  | a, b + 1, h => by
    by_cases e : a = b + 1
    · subst e; exact Nat.le_refl _
    · have := cntB_le2 c (a := a) (b := b) (by omega)
      show _ ≤ cntB c b + (c b).toNat
      omega
theorem pop_sub {a b : Nat} (h : ∀ i, a.testBit i = true → b.testBit i = true) : pop a ≤ pop b := cntB_mono (fun i _ => h i)
theorem abN_le {k s f : Nat → Int32} {n hr g tn i : Nat} (hh : hr < 256) (hg : g < 8) (ht : tn ≤ 10) (hi : i ≤ 256) : abN k s f n hr g tn i ≤ 1280000000 := by
  have h1 : abN k s f n hr g tn i ≤ cntB (fun m => m.testBit g) i * 10 ^ 7 := by
    refine sumN_le (fun m hm => ?_)
    cases hb : abB k s f n hr g m with
    | false => exact Nat.zero_le _
    | true =>
      unfold abB at hb
      simp only [Bool.and_eq_true] at hb
      have hmg := mst_sub hb.2
      have hch : dif m hr = 0 := of_decide_eq_true hb.1
      simp only [hmg, cond_true, Bool.toNat_true, Nat.one_mul]
      have hp := pop_sub (fun i => ch_bit (hr := hr) hch)
      exact wtN_le (by have := pop8 hh; omega) ht (by omega)
  have h2 := cntB_le2 (fun m => m.testBit g) hi
  rw [cnt128 g hg] at h2
  have h3 : cntB (fun m => m.testBit g) i * 10 ^ 7 ≤ 128 * 10 ^ 7 := Nat.mul_le_mul_right _ h2
  omega
/-! homes -/
def hiR (k s f : Nat → Int32) (c m : Nat) : Nat → Nat → Int32 → Int32
  | 0, _, acc => acc
  | r + 1, i, acc => if m.testBit i = true then (if htT (k i) (s i).toNatClampNeg (cntI k c - ctsI (k i)) = -1 ∨ frB f c i = false then -1 else hiR k s f c m r (i + 1) (acc + htT (k i) (s i).toNatClampNeg (cntI k c - ctsI (k i)))) else hiR k s f c m r (i + 1) acc
def hiT (k s f : Nat → Int32) (n hr m : Nat) : Int32 := hiR k s f (m ||| gon n hr) m 8 0 0
def nfR (t : Nat → Int32) (m : Nat) (nd : Int32) (j : Nat) : Nat → Int32 := fun i => if i < j ∧ m.testBit i = true ∧ (t i = -1 ∨ nd < t i) then nd else t i
theorem nfR_0 (t : Nat → Int32) (m : Nat) (nd : Int32) : nfR t m nd 0 = t := by funext i; simp [nfR]
theorem nfR_t {t : Nat → Int32} {m j : Nat} {nd : Int32} (hb : m.testBit j = true) (hc : t j = -1 ∨ nd < t j) : upd (nfR t m nd j) j nd = nfR t m nd (j + 1) := by
  funext i
  by_cases e : i = j
  · subst e; simp [upd, nfR, hb, hc]
  · have : (i < j + 1) ↔ i < j := by omega
    simp [upd, nfR, e, this]
theorem nfR_f {t : Nat → Int32} {m j : Nat} {nd : Int32} (hc : ¬ (m.testBit j = true ∧ (t j = -1 ∨ nd < t j))) : nfR t m nd j = nfR t m nd (j + 1) := by
  funext i
  by_cases e : i = j
  · subst e
    unfold nfR
    rw [if_neg (by omega), if_neg (fun q => hc q.2)]
  · have : (i < j + 1) ↔ i < j := by omega
    simp [nfR, this]
theorem nfR_at (t : Nat → Int32) (m : Nat) (nd : Int32) (j : Nat) : nfR t m nd j j = t j := by simp [nfR]
def noteR (t : Nat → Int32) (m : Nat) (nd : Int32) : Nat → Int32 := if nd = -1 then t else nfR t m nd 8
def hoR (k s f : Nat → Int32) (n hr : Nat) (t : Nat → Int32) : Nat → Nat → Int32
  | 0 => t
  | i + 1 => if dif (i + 1) hr = 0 then noteR (hoR k s f n hr t i) (i + 1) (hiT k s f n hr (i + 1)) else hoR k s f n hr t i
