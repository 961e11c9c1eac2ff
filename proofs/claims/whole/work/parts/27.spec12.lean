/-! the reference's side -/
section ZM
variable {y : MethodName} {cc : ByteArray} {nL : Nat} {ret : Option FieldType} {d : Nat} {K : Option Value → hp → Prop} {pc : Nat} {lv : List (Nat × Value)} {st : List Value} {h : hp}
theorem Z.dup2 {v w : Value} (hd : decode cc pc = .ok (.dup2, 1)) (hv : v.category = 1) (hw : w.category = 1) (k : Z y cc nL ret d K (pc + 1) lv (v :: w :: v :: w :: st) h) : Z y cc nL ret d K pc lv (v :: w :: st) h := by
  intro p l e s m args below meth c D ad cA A H locs ls cx hP hD hS hl
  exact lv_dup2_11 cx.1 cx.2.1 hd ((z_v_cat ad v).trans hv) ((z_v_cat ad w).trans hw) (k p l e s m args below meth c D ad cA A H locs ls cx hP hD hS hl)
end ZM
def Mm (h : hp) (n hr : Nat) (k s f : zF) : Prop := h.1 30 1 = nI n ∧ h.1 30 4 = nI hr ∧ hr < 2 ^ n ∧ Rk n k s f ∧ h.1 31 = k ∧ h.1 32 = s ∧ h.1 33 = f
theorem Mm_row {h : hp} {n hr r : Nat} {t k s f : zF} (hM : Mm h n hr k s f) (e0 : 30 ≠ r) (e1 : 31 ≠ r) (e2 : 32 ≠ r) (e3 : 33 ≠ r) : Mm (z_row h r t) n hr k s f := by
  obtain ⟨g1, g2, g3, g4, g5, g6, g7⟩ := hM
  exact ⟨by rw [z_row_ne e0]; exact g1, by rw [z_row_ne e0]; exact g2, g3, g4, by rw [z_row_ne e1]; exact g5, by rw [z_row_ne e2]; exact g6, by rw [z_row_ne e3]; exact g7⟩
theorem Mm_up {h : hp} {n hr j : Nat} {v : Int32} {k s f : zF} (hM : Mm h n hr k s f) (e1 : 1 ≠ j) (e2 : 4 ≠ j) : Mm (z_up h 30 j v) n hr k s f := by
  obtain ⟨g1, g2, g3, g4, g5, g6, g7⟩ := hM
  exact ⟨by rw [z_up_nf e1]; exact g1, by rw [z_up_nf e2]; exact g2, g3, g4, g5, g6, g7⟩
theorem Mm_here {h : hp} {n hr a : Nat} {k s f : zF} (hM : Mm h n hr k s f) (ha : a < 2 ^ n) : Mm (z_up h 30 4 (nI a)) n a k s f := by
  obtain ⟨g1, g2, g3, g4, g5, g6, g7⟩ := hM
  exact ⟨by rw [z_up_nf (by decide)]; exact g1, z_up_at _ _ _ _, ha, g4, g5, g6, g7⟩
theorem Mm_shy {h : hp} {n hr : Nat} {k s s' f : zF} (hM : Mm h n hr k s f) (hK : Rk n k s' f) : Mm (z_row h 32 s') n hr k s' f := by
  obtain ⟨g1, g2, g3, g4, g5, g6, g7⟩ := hM
  exact ⟨g1, g2, g3, hK, g5, rfl, g7⟩
theorem zb_add (c : Nat) (b : Bool) : nI c + zb b = nI (c + b.toNat) := by
  cases b with
  | false => exact Int32.add_zero _
  | true => exact nI_1 c
theorem ig_gB {n : Nat} (hn : n ≤ 8) (g : Int32) : inR g 0 (nI n - 1) = gB n g := by
  unfold inR gB
  rw [decide_eq_decide]
  have e : (nI n - 1).toInt = (n : Int) - 1 := by
    have := pk_sub_toInt (a := n) (b := 1) (by omega) (by decide)
    exact this
  rw [Int32.le_iff_toInt_le, Int32.le_iff_toInt_le, Int32.lt_iff_toInt_lt, e, nI_toInt (by omega)]
  omega
def cntM (k : zF) (n m : Nat) : Int32 := sumI (fun i => cond (m.testBit i) (ctsI (k i)) 0) n
theorem sum_lim {F : Nat → Int32} {n : Nat} (hn : n ≤ 8) (h : ∀ i, n ≤ i → F i = 0) : sumI F n = sumI F 8 := by
  have := sumI_add F n (8 - n) (fun i h1 _ => h i h1)
  rw [show n + (8 - n) = 8 by omega] at this
  exact this.symm
theorem cntM_eq {k : zF} {n m : Nat} (hn : n ≤ 8) (hm : m < 2 ^ n) : cntM k n m = cntI k m := sum_lim hn (fun i hi => by simp only [bit_lt hm hi, cond_false])
theorem two_bit (g i : Nat) : (2 ^ g).testBit i = decide (g = i) := Nat.testBit_two_pow
theorem sumI_sub {F G : Nat → Int32} {g : Nat} {x : Int32} (h : ∀ i, i ≠ g → F i = G i) (hg : F g = 0) (hx : G g = x) : ∀ n, g < n → sumI F n = sumI G n - x
  | 0, h0 => absurd h0 (Nat.not_lt_zero g)
  | n + 1, h0 => by
    show sumI F n + F n = sumI G n + G n - x
    by_cases e : g = n
    · subst e
      rw [hg, hx, sumI_congr (n := g) (fun i hi => h i (by omega)), Int32.add_zero, Int32.add_sub_cancel]
    · rw [sumI_sub h hg hx n (by omega), h n (by omega)]
      rw [Int32.sub_eq_add_neg, Int32.sub_eq_add_neg, Int32.add_assoc, Int32.add_comm (-x) (G n), ← Int32.add_assoc]
theorem cnt_dif {k : zF} {c g : Nat} (hb : c.testBit g = true) (hg : g < 8) : cntI k (dif c (2 ^ g)) = cntI k c - ctsI (k g) := by
  refine sumI_sub (g := g) (fun i hi => ?_) ?_ ?_ 8 hg
  · rw [dif_bit, two_bit, decide_eq_false (by omega)]; simp
  · rw [dif_bit, two_bit, decide_eq_true rfl]; simp
  · rw [hb]; rfl
def cgB (k s f : zF) (n hr m g : Nat) : Bool := frB f (m ||| gon n hr) g && decide (ndsI (k g) (s g) ≤ cntI k (dif (m ||| gon n hr) (2 ^ g)))
theorem cg_can {k s f : zF} {n hr m g : Nat} (hb : m.testBit g = true) (hg : g < 8) : cgB k s f n hr m g = canB k s f (m ||| gon n hr) g := by
  unfold cgB canB
  rw [cnt_dif (by rw [Nat.testBit_or, hb]; rfl) hg]
def allB (c : Nat → Bool) : Nat → Bool
  | 0 => true
  | i + 1 => allB c i && c i
theorem allB_iff {c : Nat → Bool} : ∀ {n : Nat}, allB c n = true ↔ ∀ i, i < n → c i = true
  | 0 => ⟨fun _ i hi => absurd hi (Nat.not_lt_zero i), fun _ => rfl⟩
  | n + 1 => by
    unfold allB
    rw [Bool.and_eq_true, allB_iff]
    refine ⟨fun ⟨h1, h2⟩ i hi => ?_, fun h => ⟨fun i hi => h i (by omega), h n (by omega)⟩⟩
    by_cases e : i = n
    · subst e; exact h2
    · exact h1 i (by omega)
def rsB (k s f : zF) (n hr m i : Nat) : Bool := !m.testBit i || cgB k s f n hr m i
theorem wcg_bit {k s f : zF} {n hr m i : Nat} : (wcg k s f n hr m).testBit i = (decide (i < 8) && wcB k s f n hr m i) := orb_bit _ _ _
theorem rs_all {k s f : zF} {n hr m : Nat} (hn : n ≤ 8) (hm : m < 2 ^ n) : allB (rsB k s f n hr m) n = decide (wcg k s f n hr m = m) := by
  have hp := p8 hn
  rw [Bool.eq_iff_iff, allB_iff, decide_eq_true_eq]
  refine ⟨fun h => ?_, fun h i hi => ?_⟩
  · apply eq_bits 8 (show wcg k s f n hr m < 2 ^ 8 from orb_lt _ 8) (by omega)
    intro i hi
    rw [wcg_bit, decide_eq_true hi, Bool.true_and]
    unfold wcB
    cases hb : m.testBit i with
    | false => rfl
    | true =>
      have := h i (tb_lt hm hb)
      unfold rsB at this
      rw [hb, cg_can hb hi] at this
      simpa using this
  · unfold rsB
    cases hb : m.testBit i with
    | false => rfl
    | true =>
      have h2 : (wcg k s f n hr m).testBit i = true := by rw [h]; exact hb
      rw [wcg_bit] at h2
      unfold wcB at h2
      rw [hb] at h2
      rw [cg_can hb (by omega)]
      simp only [Bool.true_and, Bool.and_eq_true] at h2
      simpa using h2.2
def skB (k s f : zF) (n hr m i : Nat) : Bool := m.testBit i && !cgB k s f n hr m i
theorem dif_orb_t {m i : Nat} {c : Nat → Bool} (h : c i = true) : dif (dif m (orb c i)) (2 ^ i) = dif m (orb c (i + 1)) := by
  apply Nat.eq_of_testBit_eq
  intro j
  simp only [dif_bit, two_bit, orb_bit]
  by_cases e : i = j
  · subst e; simp [h]
  · have : (j < i + 1) ↔ j < i := by omega
    simp [e, this]
theorem dif_orb_f {m i : Nat} {c : Nat → Bool} (h : c i = false) : dif m (orb c i) = dif m (orb c (i + 1)) := by
  rw [orb_f rfl h]
theorem sk_all {k s f : zF} {n hr m : Nat} (hn : n ≤ 8) (hm : m < 2 ^ n) : dif m (orb (skB k s f n hr m) n) = wcg k s f n hr m := by
  have hp := p8 hn
  apply eq_bits 8 (dif_lt (n := 8) (by omega)) (show wcg k s f n hr m < 2 ^ 8 from orb_lt _ 8)
  intro i hi
  rw [wcg_bit, decide_eq_true hi, Bool.true_and, dif_bit, orb_bit]
  unfold wcB skB
  cases hb : m.testBit i with
  | false => rfl
  | true =>
    rw [decide_eq_true (tb_lt hm hb), cg_can hb hi]
    simp
theorem and_m1 (x : Int32) : x &&& (-1) = x := by
  apply Int32.toBitVec_inj.1
  show x.toBitVec &&& BitVec.allOnes 32 = x.toBitVec
  apply BitVec.eq_of_getLsbD_eq
  intro i hi
  simp only [BitVec.getLsbD_and, BitVec.getLsbD_allOnes, hi, decide_true, Bool.and_true]
/-- alone -/
theorem al_cg {k s f : zF} {n hr g : Nat} (hK : Rk n k s f) (hl : hr < 2 ^ n) (hb : hr.testBit g = true) : cgB k s f n hr (2 ^ g) g = (frB f (gon n hr) g && decide (ndsI (k g) (s g) ≤ cntI k (gon n hr))) := by
  have hg := tb_lt hl hb
  have hn8 := hK.1
  have hgg : (gon n hr).testBit g = false := by rw [gon_bit, hb]; simp
  unfold cgB
  have e1 : dif (2 ^ g ||| gon n hr) (2 ^ g) = gon n hr := by
    apply Nat.eq_of_testBit_eq
    intro i
    rw [dif_bit, Nat.testBit_or, two_bit]
    by_cases e : g = i
    · subst e; rw [hgg]; simp
    · simp [e]
  have e2 : frB f (2 ^ g ||| gon n hr) g = frB f (gon n hr) g := by
    unfold frB
    rcases hK.2.2.2 g hg with e | ⟨j, hj, e⟩
    · rw [e]; rfl
    · rw [e, nI_clamp (by omega), Nat.testBit_or, two_bit, decide_eq_false (show ¬ g = j by omega), Bool.false_or]
  rw [e1, e2]
def faI (k s f : zF) (n hr : Nat) : Int32 := if alo k s f n hr = 0 then -1 else nI (fst8 (alo k s f n hr))
theorem fst_hit {c : Nat → Bool} : ∀ {r i g : Nat}, (∀ j, i ≤ j → j < g → c j = false) → c g = true → i ≤ g → g < i + r → fstB c r i = g
  | 0, i, g, _, _, h1, h2 => by omega
  | r + 1, i, g, h, hg, h1, h2 => by
    unfold fstB
    by_cases e : i = g
    · subst e; rw [hg]; rfl
    · rw [h i (Nat.le_refl i) (by omega)]
      exact fst_hit (fun j h3 h4 => h j (by omega) h4) hg (by omega) (by omega)
theorem fa_hit {k s f : zF} {n hr g : Nat} (hn : n ≤ 8) (h : ∀ j, j < g → alB k s f n hr j = false) (hg : alB k s f n hr g = true) (hgn : g < n) : faI k s f n hr = nI g := by
  have hb : ∀ j, j < 8 → (alo k s f n hr).testBit j = alB k s f n hr j := fun j hj => by unfold alo; rw [orb_bit, decide_eq_true hj, Bool.true_and]
  have h0 : ¬ alo k s f n hr = 0 := fun e => by
    have := hb g (by omega)
    rw [e, hg, Nat.zero_testBit] at this
    cases this
  unfold faI
  rw [if_neg h0]
  congr 1
  exact fst_hit (fun j _ h2 => by rw [hb j (by omega)]; exact h j h2) (by rw [hb g (by omega)]; exact hg) (Nat.zero_le g) (by omega)
theorem fa_none {k s f : zF} {n hr : Nat} (hl : hr < 2 ^ n) (h : ∀ j, j < n → alB k s f n hr j = false) : faI k s f n hr = -1 := by
  have h0 : alo k s f n hr = 0 := by
    apply Nat.eq_of_testBit_eq
    intro j
    unfold alo
    rw [orb_bit, Nat.zero_testBit]
    rcases Nat.lt_or_ge j n with q | q
    · rw [h j q]; simp
    · unfold alB; rw [bit_lt hl q]; simp
  unfold faI
  rw [if_pos h0]
theorem alo_bit {k s f : zF} {n hr : Nat} (h : ¬ alo k s f n hr = 0) (hl : hr < 2 ^ n) (hn : n ≤ 8) : fst8 (alo k s f n hr) < n ∧ hr.testBit (fst8 (alo k s f n hr)) = true := by
  have hp := p8 hn
  have ha := alo_lt (k := k) (s := s) (f := f) hl
  have h1 : (alo k s f n hr).testBit (fst8 (alo k s f n hr)) = true := by
    exact (by decide +kernel : ∀ m, m < 256 → ¬ m = 0 → m.testBit (fst8 m) = true) _ (by omega) h
  refine ⟨tb_lt ha h1, ?_⟩
  unfold alo at h1
  rw [orb_bit] at h1
  unfold alB at h1
  simp only [Bool.and_eq_true] at h1
  exact h1.2.1
theorem cntB_dif {a g : Nat} (hg : a.testBit g = true) : ∀ n, g < n → cntB (dif a (2 ^ g)).testBit n + 1 = cntB a.testBit n
  | 0, h => absurd h (Nat.not_lt_zero g)
  | n + 1, h => by
    show cntB _ n + ((dif a (2 ^ g)).testBit n).toNat + 1 = cntB _ n + (a.testBit n).toNat
    rw [dif_bit, two_bit]
    by_cases e : g = n
    · subst e
      rw [hg, decide_eq_true rfl]
      rw [cntB_congr (c := (dif a (2 ^ g)).testBit) (c' := a.testBit) (fun i hi => by rw [dif_bit, two_bit, decide_eq_false (by omega)]; simp)]
      rfl
    · rw [decide_eq_false e]
      have := cntB_dif hg n (by omega)
      simp
      omega
theorem pop_dif {a g : Nat} (hg : a.testBit g = true) (h : g < 10) : pop (dif a (2 ^ g)) + 1 = pop a := cntB_dif hg 10 h
theorem goN_st {k s f : zF} {n : Nat} (hn : n ≤ 8) : ∀ (r a : Nat), a < 2 ^ n → pop a ≤ r → goN k s f n (r + 1) a = goN k s f n r a
  | 0, a, ha, hp => by
    have hp8 := p8 hn
    have h0 : a = 0 := by
      rcases Nat.eq_zero_or_pos a with z | z
      · exact z
      · have := pop_pos (m := a) (by omega) (by omega); omega
    have hz : alo k s f n a = 0 := by
      apply Nat.eq_of_testBit_eq
      intro j
      unfold alo alB
      rw [orb_bit, h0, Nat.zero_testBit]
      simp
    show (if _ then _ else _) = a
    rw [if_pos hz]
  | r + 1, a, ha, hp => by
    by_cases hz : alo k s f n a = 0
    · show (if _ then _ else _) = (if _ then _ else _)
      rw [if_pos hz, if_pos hz]
    · obtain ⟨h1, h2⟩ := alo_bit hz ha hn
      have h3 := pop_dif h2 (by omega)
      show (if _ then _ else goN k s f n (r + 1) _) = (if _ then _ else goN k s f n r _)
      rw [if_neg hz, if_neg hz]
      exact goN_st hn r _ (dif_lt ha) (by omega)
theorem goN_go {k s f : zF} {n a : Nat} (hn : n ≤ 8) (ha : a < 2 ^ n) (hz : ¬ alo k s f n a = 0) : goN k s f n 8 (dif a (2 ^ fst8 (alo k s f n a))) = goN k s f n 8 a := by
  have hp8 := p8 hn
  have h := goN_st (k := k) (s := s) (f := f) hn 8 a ha (pop8 (by omega))
  rw [← h]
  show _ = (if _ then _ else goN k s f n 8 _)
  rw [if_neg hz]
theorem goN_end {k s f : zF} {n a : Nat} (hz : alo k s f n a = 0) : goN k s f n 8 a = a := by
  show (if _ then _ else _) = a
  rw [if_pos hz]
theorem les_n {s : zF} {hr n : Nat} (hn : n ≤ 8) (hl : hr < 2 ^ n) : lesR s hr n = lesR s hr 8 := by
  funext g
  unfold lesR
  by_cases hb : hr.testBit g = true
  · have := tb_lt hl hb
    rw [if_pos ⟨this, hb⟩, if_pos ⟨by omega, hb⟩]
  · have hb : hr.testBit g = false := by simpa using hb
    simp [hb]
theorem ls_sub {a : Nat} (ha : a ≤ 9) : ∀ b : Bool, b = decide (0 < a) → nI a - cond b 1 0 = lsI (nI a) := by
  intro b hb
  rw [lsI_nI ha, hb]
  rcases Nat.eq_zero_or_pos a with z | z
  · subst z; rfl
  · rw [decide_eq_true z]
    exact pk_sub (b := 1) z
