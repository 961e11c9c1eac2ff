/-! trials: hours and nights in the Room 19, the Draws 29 -/
def TR (h : hp) (n : Nat) (k f : zF) (hh : hp) (st : zF × Nat × Nat) : Prop := Rm hh 19 n st.2.1 k st.1 f ∧ hh.1 19 5 = nI st.2.2 ∧ st.2.2 ≤ 99 ∧ dZ8 st.1 ∧ (∀ r, r < 19 ∨ 22 < r → hh.1 r = h.1 r) ∧ hh.2 = h.2
theorem Rm_hrX {h : hp} {o n hr hr' fd : Nat} {k s s' f : zF} (hR : Rm h o n hr k s f) (hK : Rk n k s' f) (hl : hr' < 2 ^ n) : Rm (hrX h o s' fd hr') o n hr' k s' f :=
  Rm_here (Rm_row2 (Rm_up (Rm_up hR (by decide) (by decide)) (by decide) (by decide)) hK) hl
theorem hrX_ne {h : hp} {o fd hr r : Nat} {s : zF} (h1 : r ≠ o) (h2 : r ≠ o + 2) : (hrX h o s fd hr).1 r = h.1 r := by
  unfold hrX
  rw [z_up_ne h1, z_row_ne h2, z_up_ne h1, z_up_ne h1]
theorem dZ8_les {s : zF} {n hr : Nat} (hs : dZ8 s) (hr8 : hr < 256) : dZ8 (lesR s hr 8) := by
  intro j hj
  unfold lesR
  rw [if_neg (by omega)]
  exact hs j hj
theorem dZ8_hs {s : zF} {hr fd : Nat} (hs : dZ8 s) (hr8 : hr < 256) : dZ8 (hsS s hr fd) := by
  unfold hsS
  split
  · exact dZ8_les (n := 0) hs hr8
  · exact hs
theorem TR_step {h hh : hp} {n : Nat} {k f : zF} {st : zF × Nat × Nat} (hT : TR h n k f hh st) : TR h n k f (hrX hh 19 (hsS st.1 st.2.1 st.2.2) (st.2.2 - pop st.2.1) (hsH k st.1 f n st.2.1 st.2.2)) (hrSt k f n st) := by
  obtain ⟨h1, h2, h3, h4, h5, h6⟩ := hT
  have hp := p8 h1.2.2.2.1.1
  have hl := h1.2.2.1
  refine ⟨Rm_hrX h1 (Rk_hs h1.2.2.2.1 _ _) (hsH_lt h1.2.2.1), rfl, ?_, dZ8_hs h4 (by omega), fun r hr => ?_, h6⟩
  · show st.2.2 - pop st.2.1 ≤ 99; omega
  · rw [hrX_ne (by omega) (by omega)]; exact h5 r hr
theorem cpX_ne {h : hp} {o p r : Nat} (h0 : r ≠ o) (h1 : r ≠ o + 1) (h2 : r ≠ o + 2) (h3 : r ≠ o + 3) : (cpX h o p).1 r = h.1 r := by
  unfold cpX
  rw [z_up_ne h0, z_up_ne h0, z_up_ne h0, z_up_ne h0, z_row_ne h3, z_row_ne h2, z_row_ne h1]
theorem TR_0 {h : hp} {n hr fd : Nat} {k s f : zF} (hR : Rm h 3 n hr k s f) (hfd : h.1 3 5 = nI fd) (hf : fd ≤ 99) (zs : dZ8 s) : TR h n k f (cpX h 19 3) (s, hr, fd) :=
  ⟨⟨hR.1, hR.2.1, hR.2.2.1, hR.2.2.2.1, hR.2.2.2.2.1, hR.2.2.2.2.2.1, hR.2.2.2.2.2.2⟩, hfd, hf, zs, fun r hr => cpX_ne (by omega) (by omega) (by omega) (by omega), rfl⟩
theorem TR_D {h hh : hp} {len n hr fd ho sz ihr ifd iho isz np : Nat} {pg k s f sg so se ik js isg iso ise : zF} {kept : Bool} {st : zF × Nat × Nat} (hD : D h ((len, pg), (n, k, s, f, hr, fd, ho), (sz, sg, so, se), kept, (ihr, ik, js, ifd, iho, (isz, isg, iso, ise)), np)) (zk : dZ8 k) (zf : dZ8 f) (hT : TR h n k f hh st) :
    D hh ((len, pg), (n, k, s, f, hr, fd, ho), (sz, sg, so, se), kept, (ihr, ik, js, ifd, iho, (isz, isg, iso, ise)), np) ∧ fr30 h hh := by
  obtain ⟨hP, hG, hE, hK, hI, hX⟩ := hD
  obtain ⟨h1, h2, h3, h4, h5, h6⟩ := hT
  have e : ∀ r, r < 19 → hh.1 r = h.1 r := fun r hr => h5 r (Or.inl hr)
  refine ⟨⟨hP.mv (e 1 (by decide)) (e 2 (by decide)), hG.mv (e 3 (by decide)) (e 4 (by decide)) (e 5 (by decide)) (e 6 (by decide)), hE.mv (e 7 (by decide)) (e 8 (by decide)) (e 9 (by decide)) (e 10 (by decide)), hK.mv (e 0 (by decide)),
    hI.mv (e 11 (by decide)) (e 12 (by decide)) (e 13 (by decide)) (e 14 (by decide)) (e 15 (by decide)) (e 16 (by decide)) (e 17 (by decide)) (e 18 (by decide)),
    hX.mv (by rw [h5 24 (by omega)]; exact hX.1) (e 12 (by decide)) (e 13 (by decide)) (e 14 (by decide)) (e 16 (by decide)) (e 17 (by decide)) (e 18 (by decide)) ?_ ?_ ?_⟩, fun i hi => ⟨h5 i (by omega), by rw [h6]⟩⟩
  · rw [h1.2.2.2.2.1]; exact zk
  · rw [h1.2.2.2.2.2.1]; exact h4
  · rw [h1.2.2.2.2.2.2]; exact zf
def TN (h : hp) (n : Nat) (k f : zF) (hh : hp) (st : zF × Nat × Nat × Nat) : Prop := Rm hh 19 n st.2.1 k st.1 f ∧ hh.1 19 5 = nI st.2.2.1 ∧ st.2.2.1 ≤ 99 ∧ dZ8 st.1 ∧ hh.1 29 0 = nI st.2.2.2 ∧ st.2.2.2 < 2 ^ 31 ∧ (∀ r, r < 19 ∨ (22 < r ∧ r ≠ 29) → hh.1 r = h.1 r) ∧ hh.2 = h.2
theorem TN_D {h hh : hp} {len n hr fd ho sz ihr ifd iho isz np : Nat} {pg k s f sg so se ik js isg iso ise : zF} {kept : Bool} {st : zF × Nat × Nat × Nat} (hD : D h ((len, pg), (n, k, s, f, hr, fd, ho), (sz, sg, so, se), kept, (ihr, ik, js, ifd, iho, (isz, isg, iso, ise)), np)) (zk : dZ8 k) (zf : dZ8 f) (hT : TN h n k f hh st) :
    D hh ((len, pg), (n, k, s, f, hr, fd, ho), (sz, sg, so, se), kept, (ihr, ik, js, ifd, iho, (isz, isg, iso, ise)), np) ∧ fr30 h hh := by
  obtain ⟨hP, hG, hE, hK, hI, hX⟩ := hD
  obtain ⟨h1, h2, h3, h4, -, -, h5, h6⟩ := hT
  have e : ∀ r, r < 19 → hh.1 r = h.1 r := fun r hr => h5 r (Or.inl hr)
  refine ⟨⟨hP.mv (e 1 (by decide)) (e 2 (by decide)), hG.mv (e 3 (by decide)) (e 4 (by decide)) (e 5 (by decide)) (e 6 (by decide)), hE.mv (e 7 (by decide)) (e 8 (by decide)) (e 9 (by decide)) (e 10 (by decide)), hK.mv (e 0 (by decide)),
    hI.mv (e 11 (by decide)) (e 12 (by decide)) (e 13 (by decide)) (e 14 (by decide)) (e 15 (by decide)) (e 16 (by decide)) (e 17 (by decide)) (e 18 (by decide)),
    hX.mv (by rw [h5 24 (by omega)]; exact hX.1) (e 12 (by decide)) (e 13 (by decide)) (e 14 (by decide)) (e 16 (by decide)) (e 17 (by decide)) (e 18 (by decide)) ?_ ?_ ?_⟩, fun i hi => ⟨h5 i (by omega), by rw [h6]⟩⟩
  · rw [h1.2.2.2.2.1]; exact zk
  · rw [h1.2.2.2.2.2.1]; exact h4
  · rw [h1.2.2.2.2.2.2]; exact zf
theorem TN_0 {h : hp} {n hr fd sd : Nat} {k s f : zF} (hR : Rm h 3 n hr k s f) (hfd : h.1 3 5 = nI fd) (hf : fd ≤ 99) (zs : dZ8 s) (hsd : sd < 2 ^ 31) : TN h n k f (z_up (cpX h 19 3) 29 0 (nI sd)) (s, hr, fd, sd) :=
  ⟨⟨hR.1, hR.2.1, hR.2.2.1, hR.2.2.2.1, hR.2.2.2.2.1, hR.2.2.2.2.2.1, hR.2.2.2.2.2.2⟩, hfd, hf, zs, rfl, hsd, fun r hr => by rw [z_up_ne (by omega)]; exact cpX_ne (by omega) (by omega) (by omega) (by omega), rfl⟩
theorem TN_sd {h hh : hp} {n : Nat} {k f s' : zF} {a b sd : Nat} (hT : TN h n k f hh (s', a, b, sd)) : TN h n k f (z_up hh 29 0 (nI (sdN sd))) (s', a, b, sdN sd) := by
  obtain ⟨h1, h2, h3, h4, h5, h6, h7, h8⟩ := hT
  exact ⟨Rm_out h1 (by decide) (by decide) (by decide) (by decide), h2, h3, h4, rfl, sdN_lt sd, fun r hr => by rw [z_up_ne (by omega)]; exact h7 r hr, h8⟩
theorem TN_hr {h hh : hp} {n : Nat} {k f s' : zF} {a b sd : Nat} (hT : TN h n k f hh (s', a, b, sd)) : TN h n k f (hrX hh 19 (hsS s' a b) (b - pop a) (hsH k s' f n a b)) (hsS s' a b, hsH k s' f n a b, b - pop a, sd) := by
  obtain ⟨h1, h2, h3, h4, h5, h6, h7, h8⟩ := hT
  have h3 : b ≤ 99 := h3
  have hp := p8 h1.2.2.2.1.1
  have hl : a < 2 ^ n := h1.2.2.1
  refine ⟨Rm_hrX h1 (Rk_hs h1.2.2.2.1 _ _) (hsH_lt hl), rfl, ?_, dZ8_hs h4 (by omega), ?_, h6, fun r hr => ?_, h8⟩
  · show b - pop a ≤ 99; omega
  · rw [hrX_ne (by decide) (by decide)]; exact h5
  · rw [hrX_ne (by omega) (by omega)]; exact h7 r hr
theorem Rk_upd {n g : Nat} {k s f : zF} {a : Nat} (h : Rk n k s f) (ha : a ≤ 9) : Rk n k (upd s g (nI a)) f := by
  refine ⟨h.1, h.2.1, fun j hj => ?_, h.2.2.2⟩
  by_cases e : j = g
  · subst e; rw [upd_at]; exact ⟨a, ha, rfl⟩
  · rw [upd_ne e]; exact h.2.2.1 j hj
theorem lsI_ok {n g : Nat} {k s f : zF} (h : Rk n k s f) (hg : g < n) : ∃ a, a ≤ 9 ∧ lsI (s g) = nI a := by
  obtain ⟨a, ha, e⟩ := h.2.2.1 g hg
  rw [e, lsI_nI ha]; exact ⟨a - 1, by omega, rfl⟩
theorem TN_hint {h hh : hp} {n : Nat} {k f s' : zF} {a b sd g : Nat} (hg : g < n) (hT : TN h n k f hh (s', a, b, sd)) : TN h n k f (z_up hh (19 + 2) g (lsI (s' g))) (upd s' g (lsI (s' g)), a, b, sd) := by
  obtain ⟨h1, h2, h3, h4, h5, h6, h7, h8⟩ := hT
  have hn8 := h1.2.2.2.1.1
  obtain ⟨v, hv, ev⟩ := lsI_ok h1.2.2.2.1 hg
  have e : hh.1 21 = s' := h1.2.2.2.2.2.1
  refine ⟨?_, h2, h3, ?_, h5, h6, fun r hr => by rw [z_up_ne (by omega)]; exact h7 r hr, h8⟩
  · have := Rm_row2 (s' := upd s' g (lsI (s' g))) h1 (by rw [ev]; exact Rk_upd h1.2.2.2.1 hv)
    rw [z_up_row, show hh.1 (19 + 2) = s' from e]
    exact this
  · intro j hj
    show upd s' g _ j = 0
    rw [upd_ne (by omega)]; exact h4 j hj
theorem isP_of {pg : zF} {len : Nat} (h : isP pg len = true) : 3 < len ∧ (len - 3) % 4 = 3 ∧ 2 ≤ (len - 2) / 4 ∧ ffN pg len = len := by
  unfold isP at h
  simp only [Bool.and_eq_true, decide_eq_true_eq] at h
  exact ⟨h.1.1, h.1.2, h.2.1, h.2.2⟩
theorem fst_all {c : Nat → Bool} : ∀ r i, fstB c r i = i + r → ∀ j, i ≤ j → j < i + r → c j = false
  | 0, i, _, j, h1, h2 => by omega
  | r + 1, i, h, j, h1, h2 => by
    unfold fstB at h
    cases hc : c i with
    | true => rw [hc] at h; simp at h
    | false =>
      rw [hc] at h
      by_cases e : j = i
      · subst e; exact hc
      · exact fst_all r (i + 1) (by simp at h; omega) j (by omega) (by omega)
theorem ff_all {pg : zF} {len : Nat} (h : ffN pg len = len) {p : Nat} (hp : p < len) : fitB p (pg p) = true := by
  have := fst_all (c := fun p => !fitB p (pg p)) len 0 (by rw [Nat.zero_add]; exact h) p (Nat.zero_le p) (by omega)
  simpa using this
theorem dig_of {c : Int32} {b : Nat} (hb : b ≤ 10) (h : digB c (nI b) = true) : ∃ a, a < b ∧ c - 48 = nI a := by
  obtain ⟨h1, h2⟩ := of_decide_eq_true h
  have e48 : (48 : Int32) = nI 48 := rfl
  rw [e48] at h1 h2
  rw [nI_add] at h2
  have h0 : ¬ c < 0 := fun q => by
    rw [Int32.lt_iff_toInt_lt] at q
    rw [Int32.le_iff_toInt_le, nI_toInt (by decide)] at h1
    have e0 : (0 : Int32).toInt = 0 := rfl
    omega
  obtain ⟨j, hj, rfl⟩ := nI_of h0
  have g1 := (nI_leI (by decide) hj).mp h1
  have g2 := (nI_ltI hj (by omega)).mp h2
  refine ⟨j - 48, by omega, ?_⟩
  rw [e48, pk_sub g1]
theorem pgD_ok {pg : zF} {len : Nat} (h : isP pg len = true) : ∃ a, a ≤ 99 ∧ pgD pg = nI a := by
  obtain ⟨h1, h2, h3, h4⟩ := isP_of h
  have f0 := ff_all h4 (p := 0) (by omega)
  have f1 := ff_all h4 (p := 1) (by omega)
  obtain ⟨a, ha, ea⟩ := dig_of (b := 10) (by decide) (show digB (pg 0) 10 = true from f0)
  obtain ⟨b, hb, eb⟩ := dig_of (b := 10) (by decide) (show digB (pg 1) 10 = true from f1)
  refine ⟨10 * a + b, by omega, ?_⟩
  unfold pgD
  rw [ea, eb]
  show nI 10 * nI a + nI b = _
  rw [pk_mul, nI_add]
