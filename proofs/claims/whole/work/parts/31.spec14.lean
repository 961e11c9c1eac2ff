/-! the reference under trial, and after it: only what was saved has moved -/
def OM (h hh : hp) : Prop := (∀ r, r ≠ 30 ∧ r ≠ 38 → hh.1 r = h.1 r) ∧ (∀ j, j ≠ 17 ∧ j ≠ 18 → hh.1 30 j = h.1 30 j) ∧ dZ8 (hh.1 38) ∧ ∀ r j, (r = 30 → j ≠ 19) → hh.2 r j = h.2 r j
theorem Mm_OM {h hh : hp} {n hr : Nat} {k s f : zF} (hM : Mm h n hr k s f) (hO : OM h hh) : Mm hh n hr k s f := by
  obtain ⟨g1, g2, g3, g4, g5, g6, g7⟩ := hM
  exact ⟨by rw [hO.2.1 1 (by decide)]; exact g1, by rw [hO.2.1 4 (by decide)]; exact g2, g3, g4, by rw [hO.1 31 (by decide)]; exact g5, by rw [hO.1 32 (by decide)]; exact g6, by rw [hO.1 33 (by decide)]; exact g7⟩
theorem TM_0 {h : hp} {n hr fd : Nat} {k s f : zF} (hM : Mm h n hr k s f) (hfd : h.1 30 2 = nI fd) (hf : fd ≤ 99) (zs : dZ8 s) : TM (svX h s) n k f (svX h s) (s, hr, fd) := by
  refine ⟨Mm_up (Mm_up (Mm_row hM (by decide) (by decide) (by decide) (by decide)) (by decide) (by decide)) (by decide) (by decide), ?_, hf, zs, fun _ _ => rfl, fun _ _ => rfl⟩
  unfold svX
  rw [z_up_nf (by decide), z_up_nf (by decide), z_row_ne (by decide)]
  exact hfd
theorem sv_17 {h : hp} {s : zF} : (svX h s).1 30 17 = h.1 30 4 := by
  unfold svX
  rw [z_up_nf (by decide), z_up_at]
theorem sv_18 {h : hp} {s : zF} : (svX h s).1 30 18 = h.1 30 2 := by
  unfold svX
  rw [z_up_at]
theorem sv_38 {h : hp} {s : zF} : (svX h s).1 38 = s := by
  unfold svX
  rw [z_up_ne (by decide), z_up_ne (by decide), z_row_at]
theorem OM_ld {h hh : hp} {n hr fd : Nat} {k s f : zF} {st : zF × Nat × Nat} (hM : Mm h n hr k s f) (hfd : h.1 30 2 = nI fd) (zs : dZ8 s) (hT : TM (svX h s) n k f hh st) (h2 : ∀ r j, (r = 30 → j ≠ 19) → hh.2 r j = h.2 r j) : OM h (ldX hh (rdR (hh.1 38) (hh.1 32) 8) hr fd) := by
  obtain ⟨t1, t2, t3, t4, t5, t6⟩ := hT
  have e38 : hh.1 38 = s := (t5 38 (by decide)).trans sv_38
  have e : rdR (hh.1 38) (hh.1 32) 8 = s := by rw [e38, t1.2.2.2.2.2.1]; exact rd8 zs t4
  rw [e]
  refine ⟨fun r hr => ?_, fun j hj => ?_, ?_, fun r j hj => ?_⟩
  · unfold ldX
    rw [z_up_ne hr.1, z_up_ne hr.1]
    by_cases e2 : r = 32
    · subst e2; rw [z_row_at]; exact hM.2.2.2.2.2.1.symm
    · rw [z_row_ne e2, t5 r ⟨hr.1, e2⟩]
      unfold svX
      rw [z_up_ne hr.1, z_up_ne hr.1, z_row_ne hr.2]
  · unfold ldX
    by_cases e2 : j = 2
    · subst e2; rw [z_up_at]; exact hfd.symm
    · rw [z_up_nf e2]
      by_cases e4 : j = 4
      · subst e4; rw [z_up_at]; exact hM.2.1.symm
      · rw [z_up_nf e4, z_row_ne (by decide), t6 j ⟨e2, e4⟩]
        unfold svX
        rw [z_up_nf hj.2, z_up_nf hj.1, z_row_ne (by decide)]
  · unfold ldX
    rw [z_up_ne (by decide), z_up_ne (by decide), z_row_ne (by decide), e38]
    exact zs
  · exact h2 r j hj
/-- nights -/
def TQ (h : hp) (n : Nat) (k f : zF) (hh : hp) (st : zF × Nat × Nat × Nat) : Prop := TM h n k f hh (st.1, st.2.1, st.2.2.1) ∧ hh.2 30 19 = lN st.2.2.2 ∧ st.2.2.2 < 2 ^ 31 ∧ ∀ r j, (r = 30 → j ≠ 19) → hh.2 r j = h.2 r j
theorem upL_at {h : hp} {v : Int64} {i j : Nat} : (z_upL h i j v).2 i j = v := by simp [z_upL, va_up, vp_updL]
theorem upL_ne {h : hp} {v : Int64} {i j r q : Nat} (e : r = i → q ≠ j) : (z_upL h i j v).2 r q = h.2 r q := by
  by_cases e1 : r = i
  · subst e1; simp [z_upL, va_up, vp_updL, e rfl]
  · simp [z_upL, va_up, e1]
theorem TQ_0 {h : hp} {n hr fd sd : Nat} {k s f : zF} (hM : Mm h n hr k s f) (hfd : h.1 30 2 = nI fd) (hf : fd ≤ 99) (zs : dZ8 s) (hsd : sd < 2 ^ 31) : TQ (svX h s) n k f (z_upL (svX h s) 30 19 (lN sd)) (s, hr, fd, sd) :=
  ⟨TM_0 hM hfd hf zs, upL_at, hsd, fun _ _ hj => upL_ne hj⟩
theorem TQ_sd {h hh : hp} {n : Nat} {k f s' : zF} {a b sd : Nat} (hT : TQ h n k f hh (s', a, b, sd)) : TQ h n k f (z_upL hh 30 19 (lN (sdN sd))) (s', a, b, sdN sd) :=
  ⟨hT.1, upL_at, sdN_lt sd, fun r j hj => (upL_ne hj).trans (hT.2.2.2 r j hj)⟩
theorem gh_2 {h : hp} {s : zF} {fd hr : Nat} : (ghX h s fd hr).2 = h.2 := rfl
theorem TQ_hr {h hh : hp} {n : Nat} {k f s' : zF} {a b sd : Nat} (hT : TQ h n k f hh (s', a, b, sd)) : TQ h n k f (ghX hh (hsS s' a b) (b - pop a) (hsH k s' f n a b)) (hsS s' a b, hsH k s' f n a b, b - pop a, sd) :=
  by
  obtain ⟨h1, h2, h3, h4⟩ := hT
  have h1 : TM h n k f hh (s', a, b) := h1
  have h5 := TM_step h1
  dsimp only [hrSt] at h5
  have e : (ghX hh (hsS s' a b) (b - pop a) (hsH k s' f n a b)).2 = hh.2 := gh_2
  exact ⟨h5, by rw [e]; exact h2, h3, by rw [e]; exact h4⟩
theorem TQ_hint {h hh : hp} {n : Nat} {k f s' : zF} {a b sd g : Nat} (hg : g < n) (hT : TQ h n k f hh (s', a, b, sd)) : TQ h n k f (z_up hh 32 g (lsI (s' g))) (upd s' g (lsI (s' g)), a, b, sd) := by
  obtain ⟨⟨t1, t2, t3, t4, t5, t6⟩, t7, t8, t9⟩ := hT
  have hn8 := t1.2.2.2.1.1
  obtain ⟨v, hv, ev⟩ := lsI_ok t1.2.2.2.1 hg
  have e : hh.1 32 = s' := t1.2.2.2.2.2.1
  have ez : z_up hh 32 g (lsI (s' g)) = z_row hh 32 (upd s' g (lsI (s' g))) := by rw [z_up_row, e]
  rw [ez]
  refine ⟨⟨Mm_shy t1 (by rw [ev]; exact Rk_upd t1.2.2.2.1 hv), t2, t3, ?_, fun r hr => ?_, t6⟩, t7, t8, t9⟩
  · intro j hj
    show upd s' g _ j = 0
    rw [upd_ne (by omega)]; exact t4 j hj
  · rw [z_row_ne hr.2]; exact t5 r hr
def tldI (n : Nat) (w : Int32) (X : zF × Nat × Nat × Nat) : Int32 := if w = 0 then nI (pop (gon n X.2.1)) else if w = 1 then nI X.2.2.1 else nI X.2.2.2
/-! hints: far is 2^28 -/
def farI (x : Int32) : Int32 := if x = -1 then 268435456 else x
def frP (b : Nat) (x : Int32) : Prop := x = -1 ∨ ∃ A, A ≤ b ∧ x = nI A
theorem far_m1 : farI (-1) = 268435456 := rfl
theorem far_eq {x : Int32} {b : Nat} (hb : b ≤ 1000) (h : frP b x) (e : farI x = 268435456) : -1 = x := by
  rcases h with rfl | ⟨A, hA, rfl⟩
  · rfl
  · unfold farI at e
    by_cases q : nI A = -1
    · exact q.symm
    · rw [if_neg q] at e
      have h2 : A = 268435456 := (nI_eq (b := 268435456) (by omega) (by decide)).mp e
      omega
theorem far_ne {x : Int32} (e : ¬ farI x = 268435456) : farI x = x := by
  unfold farI at e ⊢
  by_cases q : x = -1
  · rw [if_pos q] at e; exact absurd rfl e
  · rw [if_neg q]
theorem nI_m1 {A : Nat} (h : A < 2 ^ 31) : ¬ nI A = -1 := fun z => by
  have h2 := congrArg Int32.toInt z
  rw [nI_toInt h] at h2
  have e1 : (-1 : Int32).toInt = -1 := rfl
  omega
theorem far_nI {A : Nat} (h : A < 2 ^ 31) : farI (nI A) = nI A := by unfold farI; rw [if_neg (nI_m1 h)]
theorem far_le {x : Int32} {b : Nat} (hb : b ≤ 1000) (h : frP b x) : ¬ (268435456 : Int32) < farI x := by
  rcases h with rfl | ⟨A, hA, rfl⟩
  · decide
  · rw [far_nI (by omega)]
    exact nI_nlt (a := 268435456) (by omega) (by decide)
theorem far_lt {x y : Int32} {b : Nat} (hb : b ≤ 1000) (hx : frP b x) (hy : frP b y) : farI x < farI y ↔ ¬ x = -1 ∧ (y = -1 ∨ x < y) := by
  rcases hx with rfl | ⟨A, hA, rfl⟩
  · exact ⟨fun z => absurd z (far_le hb hy), fun z => absurd rfl z.1⟩
  · rw [far_nI (by omega)]
    rcases hy with rfl | ⟨B, hB, rfl⟩
    · exact ⟨fun _ => ⟨nI_m1 (by omega), Or.inl rfl⟩, fun _ => nI_lt (b := 268435456) (by omega) (by decide)⟩
    · rw [far_nI (by omega)]
      exact ⟨fun z => ⟨nI_m1 (by omega), Or.inr z⟩, fun z => z.2.resolve_left (nI_m1 (by omega))⟩
theorem ht_fr {k : Int32} {a : Nat} {ot : Int32} : ∀ r i, htI k a ot r i = -1 ∨ ∃ j, j < i + r ∧ htI k a ot r i = nI j
  | 0, _ => Or.inl rfl
  | r + 1, i => by
    unfold htI
    by_cases q : ndsI k (nI (a - i)) ≤ ot
    · rw [if_pos q]; exact Or.inr ⟨i, by omega, rfl⟩
    · rw [if_neg q]
      rcases ht_fr (k := k) (a := a) (ot := ot) r (i + 1) with e | ⟨j, hj, e⟩
      · exact Or.inl e
      · exact Or.inr ⟨j, by omega, e⟩
theorem htT_fr {k : Int32} {a : Nat} {ot : Int32} (ha : a ≤ 9) : frP 9 (htT k a ot) := by
  rcases ht_fr (k := k) (a := a) (ot := ot) (a + 1) 0 with e | ⟨j, hj, e⟩
  · exact Or.inl e
  · exact Or.inr ⟨j, by omega, e⟩
theorem hiR_fr {k s f : zF} {c m : Nat} (hs : ∀ j, m.testBit j = true → ∃ a, a ≤ 9 ∧ s j = nI a) : ∀ r i A, A ≤ 9 * i → frP (9 * (i + r)) (hiR k s f c m r i (nI A))
  | 0, i, A, hA => Or.inr ⟨A, by omega, rfl⟩
  | r + 1, i, A, hA => by
    cases hb : m.testBit i with
    | false =>
      rw [hiR_f hb]
      have := hiR_fr (k := k) (f := f) (c := c) hs r (i + 1) A (by omega)
      rw [show i + 1 + r = i + (r + 1) by omega] at this
      exact this
    | true =>
      obtain ⟨a, ha, e⟩ := hs i hb
      by_cases q : htT (k i) a (cntI k c - ctsI (k i)) = -1 ∨ frB f c i = false
      · rw [hiR_n hb e ha q]; exact Or.inl rfl
      · have q1 : ¬ htT (k i) a (cntI k c - ctsI (k i)) = -1 := fun z => q (Or.inl z)
        have q2 : frB f c i = true := by
          cases z : frB f c i with
          | true => rfl
          | false => exact absurd (Or.inr z) q
        rw [hiR_s hb e ha q1 q2]
        rcases htT_fr (k := k i) (ot := cntI k c - ctsI (k i)) ha with z | ⟨B, hB, z⟩
        · exact absurd z q1
        · rw [z, nI_add]
          have := hiR_fr (k := k) (f := f) (c := c) hs r (i + 1) (A + B) (by omega)
          rw [show i + 1 + r = i + (r + 1) by omega] at this
          exact this
theorem hiT_fr {k s f : zF} {n hr m : Nat} (hK : Rk n k s f) (hm : m < 2 ^ n) : frP 72 (hiT k s f n hr m) := hiR_fr (fun j hj => hK.2.2.1 j (tb_lt hm hj)) 8 0 0 (by omega)
theorem hiR_end {k s f : zF} {c m : Nat} {acc : Int32} : ∀ r i, (∀ j, i ≤ j → m.testBit j = false) → hiR k s f c m r i acc = acc
  | 0, _, _ => rfl
  | r + 1, i, h => by
    rw [hiR_f (h i (Nat.le_refl i))]
    exact hiR_end r (i + 1) (fun j hj => h j (by omega))
theorem ho_fr {k s f : zF} {n hr g : Nat} (hK : Rk n k s f) (hl : hr < 2 ^ n) : ∀ i, i ≤ hr → frP 72 (hoR k s f n hr hm1 i g)
  | 0, _ => Or.inl rfl
  | i + 1, hi => by
    have ih := ho_fr (g := g) hK hl i (by omega)
    by_cases q : dif (i + 1) hr = 0
    · rw [← hoR_s q]
      unfold noteR
      split
      · exact ih
      · unfold nfR
        split
        · exact hiT_fr hK (by omega)
        · exact ih
    · rw [← hoR_k q]; exact ih
theorem ho_no {k s f : zF} {n hr g i : Nat} (hK : Rk n k s f) (hl : hr < 2 ^ n) (hi : i ≤ hr) (h : ¬ dif (i + 1) hr = 0 ∨ (i + 1).testBit g = false) : (if (268435456 : Int32) < farI (hoR k s f n hr hm1 i g) then 268435456 else farI (hoR k s f n hr hm1 i g)) = farI (hoR k s f n hr hm1 (i + 1) g) := by
  rw [if_neg (far_le (b := 72) (by decide) (ho_fr hK hl i hi))]
  by_cases q : dif (i + 1) hr = 0
  · have hb : (i + 1).testBit g = false := h.resolve_left (fun z => z q)
    rw [← hoR_s q]
    unfold noteR
    split
    · rfl
    · unfold nfR
      rw [if_neg (by rw [hb]; simp)]
  · rw [← hoR_k q]
theorem ho_go {k s f : zF} {n hr g i : Nat} (hK : Rk n k s f) (hl : hr < 2 ^ n) (hi : i + 1 ≤ hr) (hg : g < 8) (q : dif (i + 1) hr = 0) (hb : (i + 1).testBit g = true) : (if farI (hiT k s f n hr (i + 1)) < farI (hoR k s f n hr hm1 i g) then farI (hiT k s f n hr (i + 1)) else farI (hoR k s f n hr hm1 i g)) = farI (hoR k s f n hr hm1 (i + 1) g) := by
  have h1 := far_lt (b := 72) (by decide) (hiT_fr (hr := hr) hK (show i + 1 < 2 ^ n by omega)) (ho_fr (g := g) hK hl i (by omega))
  rw [← hoR_s q]
  unfold noteR
  by_cases e : hiT k s f n hr (i + 1) = -1
  · rw [if_pos e, if_neg (fun z => (h1.mp z).1 e)]
  · rw [if_neg e]
    unfold nfR
    by_cases c : hoR k s f n hr hm1 i g = -1 ∨ hiT k s f n hr (i + 1) < hoR k s f n hr hm1 i g
    · rw [if_pos (h1.mpr ⟨e, c⟩), if_pos ⟨hg, hb, c⟩]
    · rw [if_neg (fun z => c (h1.mp z).2), if_neg (fun z => c z.2.2)]
theorem sub_1 (x y : Int32) : x - y + Int32.ofInt (-1) = x - (y + Int32.ofInt 1) := by
  rw [Int32.sub_eq_add_neg, Int32.sub_eq_add_neg, Int32.neg_add, Int32.sub_eq_add_neg, ← Int32.add_assoc]
  rfl
theorem nI_sub1 (a i : Nat) : nI a - nI i + Int32.ofInt (-1) = nI a - nI (i + 1) := by rw [sub_1, ii_1]
