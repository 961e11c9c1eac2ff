/-! the reference's page -/
def Mp (h : hp) (len : Nat) (pg : zF) : Prop := h.1 30 12 = nI len ∧ h.1 37 = pg ∧ len ≤ 36 ∧ ∀ p, p < len → 32 ≤ pg p ∧ pg p ≤ 126
def atI (pg : zF) (len p : Nat) : Int32 := if p < len then pg p else 0
def fxB (pg : zF) (len p : Nat) : Bool := decide (p < len) && fitB p (pg p)
theorem at_t {pg : zF} {len p : Nat} (h : p < len) : atI pg len p = pg p := if_pos h
theorem at_f {pg : zF} {len p : Nat} (h : ¬ p < len) : atI pg len p = 0 := if_neg h
theorem kof_out {c : Int32} (h : c.toInt < 99 ∨ 112 < c.toInt) : kofI c = -1 := by
  unfold kofI
  rw [if_neg (fun e => by rw [e] at h; revert h; decide), if_neg (fun e => by rw [e] at h; revert h; decide), if_neg (fun e => by rw [e] at h; revert h; decide), if_neg (fun e => by rw [e] at h; revert h; decide), if_neg (fun e => by rw [e] at h; revert h; decide)]
theorem fig_eq {pg : zF} {len p b : Nat} (hp : ∀ p, p < len → 32 ≤ pg p ∧ pg p ≤ 126) (hb : b ≤ 10) : inR (atI pg len p - 48) 0 (nI b - 1) = (decide (p < len) && digB (pg p) (nI b)) := by
  by_cases q : p < len
  · rw [at_t q, decide_eq_true q, Bool.true_and]
    obtain ⟨h1, h2⟩ := hp p q
    have h0 : ¬ pg p < 0 := fun z => by
      rw [Int32.lt_iff_toInt_lt] at z
      rw [Int32.le_iff_toInt_le] at h1
      have e0 : (0 : Int32).toInt = 0 := rfl
      have e1 : (32 : Int32).toInt = 32 := rfl
      omega
    obtain ⟨j, hj, e⟩ := nI_of h0
    rw [e] at h2 ⊢
    have g2 : j ≤ 126 := (nI_leI (b := 126) hj (by decide)).mp h2
    unfold inR digB
    rw [decide_eq_decide]
    have e1 : (nI j - 48).toInt = (j : Int) - 48 := pk_sub_toInt (a := j) (b := 48) (by omega) (by decide)
    have e2 : (nI b - 1).toInt = (b : Int) - 1 := pk_sub_toInt (a := b) (b := 1) (by omega) (by decide)
    have e3 : (48 : Int32) + nI b = nI (48 + b) := nI_add 48 b
    rw [e3, Int32.le_iff_toInt_le, Int32.le_iff_toInt_le, Int32.le_iff_toInt_le, Int32.lt_iff_toInt_lt, e1, e2, nI_toInt hj, nI_toInt (by omega)]
    have e0 : (0 : Int32).toInt = 0 := rfl
    have e48 : (48 : Int32).toInt = 48 := rfl
    omega
  · rw [at_f q, decide_eq_false q, Bool.false_and]
    exact decide_eq_false (fun z => absurd z.1 (by decide))
theorem fit_g {g st : Nat} {c : Int32} (hg : g < 8) (hs : st < 4) : fitB (3 + 4 * g + st) c = fitG g st c := by
  unfold fitB
  rw [if_neg (by omega), if_neg (by omega), show (3 + 4 * g + st - 3) / 4 = g by omega, show (3 + 4 * g + st - 3) % 4 = st by omega]
theorem fx_0 {pg : zF} {len g : Nat} (hg : g < 8) : fxB pg len (3 + 4 * g) = !decide (kofI (atI pg len (3 + 4 * g)) = -1) := by
  unfold fxB
  rw [show fitB (3 + 4 * g) (pg (3 + 4 * g)) = fitG g 0 (pg (3 + 4 * g)) from fit_g (st := 0) hg (by decide)]
  unfold fitG
  rw [decide_eq_true hg]
  by_cases q : 3 + 4 * g < len
  · rw [at_t q, decide_eq_true q]; simp
  · rw [at_f q, decide_eq_false q]; rfl
theorem fx_1 {pg : zF} {len g : Nat} (hg : g < 8) : (decide (3 + 4 * g + 1 < len) && digB (pg (3 + 4 * g + 1)) (nI 10)) = fxB pg len (3 + 4 * g + 1) := by
  unfold fxB
  rw [fit_g hg (by decide)]
  unfold fitG
  rw [decide_eq_true hg]
  rfl
theorem fx_2 {pg : zF} {len g : Nat} (hg : g < 8) : fxB pg len (3 + 4 * g + 2) = (decide (atI pg len (3 + 4 * g + 2) = 45) || (decide (3 + 4 * g + 2 < len) && digB (pg (3 + 4 * g + 2)) (nI g))) := by
  unfold fxB
  rw [fit_g hg (by decide)]
  unfold fitG
  rw [decide_eq_true hg]
  by_cases q : 3 + 4 * g + 2 < len
  · rw [at_t q, decide_eq_true q]; simp
  · rw [at_f q, decide_eq_false q]; rfl
theorem fx_3 {pg : zF} {len g : Nat} (hg : g < 8) : fxB pg len (3 + 4 * g + 3) = (decide (atI pg len (3 + 4 * g + 3) = 44) && decide (g < 7)) := by
  unfold fxB
  rw [fit_g hg (by decide)]
  unfold fitG
  rw [decide_eq_true hg]
  by_cases q : 3 + 4 * g + 3 < len
  · rw [at_t q, decide_eq_true q]; simp
  · rw [at_f q, decide_eq_false q]; rfl
theorem fx_lt {pg : zF} {len p : Nat} (h : fxB pg len p = true) : p < len := by
  unfold fxB at h
  simp only [Bool.and_eq_true, decide_eq_true_eq] at h
  exact h.1
theorem fst_none {c : Nat → Bool} : ∀ r i, (∀ j, i ≤ j → j < i + r → c j = false) → fstB c r i = i + r
  | 0, i, _ => rfl
  | r + 1, i, h => by
    unfold fstB
    rw [h i (Nat.le_refl i) (by omega)]
    have := fst_none r (i + 1) (fun j h1 h2 => h j (by omega) (by omega))
    show fstB c r (i + 1) = _
    omega
theorem ff_hit {pg : zF} {len p : Nat} (h : ∀ q, q < p → fxB pg len q = true) (hp : fxB pg len p = false) : ffN pg len = p := by
  have hc : ∀ q, q < p → (!fitB q (pg q)) = false := fun q hq => by
    have := h q hq
    unfold fxB at this
    simp only [Bool.and_eq_true] at this
    rw [this.2]; rfl
  have hle : p ≤ len := by
    rcases Nat.eq_zero_or_pos p with z | z
    · omega
    · have := fx_lt (h (p - 1) (by omega)); omega
  unfold ffN
  rcases Nat.lt_or_ge p len with q | q
  · refine fst_hit (c := fun p => !fitB p (pg p)) (fun j _ h2 => hc j h2) ?_ (Nat.zero_le p) (by omega)
    unfold fxB at hp
    rw [decide_eq_true q, Bool.true_and] at hp
    rw [hp]; rfl
  · have e : p = len := by omega
    subst e
    have := fst_none (c := fun p => !fitB p (pg p)) p 0 (fun j _ h2 => hc j (by omega))
    omega
def rgN (pg : zF) (len g : Nat) : Nat := if fxB pg len (3 + 4 * g) = false then 3 + 4 * g else if fxB pg len (3 + 4 * g + 1) = false then 3 + 4 * g + 1 else if fxB pg len (3 + 4 * g + 2) = false then 3 + 4 * g + 2 else 3 + 4 * g + 3
theorem isP_no {pg : zF} {len p : Nat} (h : ffN pg len = p) (hp : p ≤ 3 ∨ ¬ (p - 3) % 4 = 3) : isP pg len = false := by
  cases q : isP pg len with
  | false => rfl
  | true => obtain ⟨h1, h2, h3, h4⟩ := isP_of q; omega
theorem rg_lt {pg : zF} {len g : Nat} (hg : g < 8) : rgN pg len g < 2 ^ 31 := by
  unfold rgN
  split
  · omega
  · split
    · omega
    · split <;> omega
theorem rg_no {pg : zF} {len g : Nat} (h : ∀ q, q < 3 + 4 * g → fxB pg len q = true) (hn : ¬ rgN pg len g = 3 + 4 * g + 3) : ffN pg len = rgN pg len g ∧ isP pg len = false := by
  have key : ffN pg len = rgN pg len g ∧ ¬ (rgN pg len g - 3) % 4 = 3 := by
    unfold rgN at hn ⊢
    by_cases q0 : fxB pg len (3 + 4 * g) = false
    · rw [if_pos q0]; exact ⟨ff_hit h q0, by omega⟩
    · rw [if_neg q0] at hn ⊢
      have p0 : fxB pg len (3 + 4 * g) = true := by simpa using q0
      have h1 : ∀ q, q < 3 + 4 * g + 1 → fxB pg len q = true := fun q hq => by
        by_cases e : q = 3 + 4 * g
        · subst e; exact p0
        · exact h q (by omega)
      by_cases q1 : fxB pg len (3 + 4 * g + 1) = false
      · rw [if_pos q1]; exact ⟨ff_hit h1 q1, by omega⟩
      · rw [if_neg q1] at hn ⊢
        have p1 : fxB pg len (3 + 4 * g + 1) = true := by simpa using q1
        have h2 : ∀ q, q < 3 + 4 * g + 2 → fxB pg len q = true := fun q hq => by
          by_cases e : q = 3 + 4 * g + 1
          · subst e; exact p1
          · exact h1 q (by omega)
        by_cases q2 : fxB pg len (3 + 4 * g + 2) = false
        · rw [if_pos q2]; exact ⟨ff_hit h2 q2, by omega⟩
        · rw [if_neg q2] at hn; exact absurd rfl hn
  exact ⟨key.1, isP_no key.1 (Or.inr key.2)⟩
theorem rg_yes {pg : zF} {len g : Nat} (h : ∀ q, q < 3 + 4 * g → fxB pg len q = true) (hy : rgN pg len g = 3 + 4 * g + 3) : ∀ q, q < 3 + 4 * g + 3 → fxB pg len q = true := by
  unfold rgN at hy
  by_cases q0 : fxB pg len (3 + 4 * g) = false
  · rw [if_pos q0] at hy; omega
  · rw [if_neg q0] at hy
    by_cases q1 : fxB pg len (3 + 4 * g + 1) = false
    · rw [if_pos q1] at hy; omega
    · rw [if_neg q1] at hy
      by_cases q2 : fxB pg len (3 + 4 * g + 2) = false
      · rw [if_pos q2] at hy; omega
      · intro q hq
        by_cases e0 : q = 3 + 4 * g
        · subst e0; simpa using q0
        · by_cases e1 : q = 3 + 4 * g + 1
          · subst e1; simpa using q1
          · by_cases e2 : q = 3 + 4 * g + 2
            · subst e2; simpa using q2
            · exact h q (by omega)
def wlB (len g : Nat) : Bool := decide (3 + 4 * g + 3 = len) && decide (1 < g + 1)
theorem isP_w {pg : zF} {len g : Nat} (h : ffN pg len = 3 + 4 * g + 3) : isP pg len = wlB len g := by
  unfold isP wlB
  rw [h]
  by_cases e : 3 + 4 * g + 3 = len
  · rw [decide_eq_true e, decide_eq_true (show 3 < len ∧ (len - 3) % 4 = 3 by omega), Bool.and_true, Bool.true_and, Bool.true_and, decide_eq_decide]
    omega
  · rw [decide_eq_false e]
    simp
def rdM (h : hp) (b : Bool) (g : Nat) : hp := z_up (z_up h 30 14 (zb b)) 30 15 (nI g)
theorem rd_15 {h : hp} {b : Bool} {g : Nat} : (rdM h b g).1 30 15 = nI g := z_up_at _ _ _ _
theorem rd_14 {h : hp} {b b' : Bool} {g : Nat} {v : Int32} (e : v = zb b') : z_up (rdM h b g) 30 14 v = rdM h b' g := by
  subst e
  unfold rdM
  simp only [z_up_row, z_row_at, z_row_row]
  congr 1
  funext x
  by_cases e1 : x = 14
  · simp [upd, e1]
  · by_cases e2 : x = 15 <;> simp [upd, e1, e2]
theorem rd_up {h : hp} {b : Bool} {g g' : Nat} : z_up (rdM h b g) 30 15 (nI g') = rdM h b g' := z_up_up _ _ _ _ _
theorem Mp_rd {h : hp} {len : Nat} {pg : zF} {b : Bool} {g : Nat} (hP : Mp h len pg) : Mp (rdM h b g) len pg :=
  ⟨by unfold rdM; rw [z_up_nf (by decide), z_up_nf (by decide)]; exact hP.1, by unfold rdM; rw [z_up_ne (by decide), z_up_ne (by decide)]; exact hP.2.1, hP.2.2⟩
def KRd (h : hp) (len : Nat) (pg : zF) : Option Value → hp → Prop := fun r hh => r = some (.int (nI (ffN pg len))) ∧ ∃ g, hh = rdM h (isP pg len) g ∧ (isP pg len = true → g = (len - 2) / 4)
theorem wl_t {len g : Nat} (h : 3 + 4 * g + 3 = len) (h2 : 1 < g + 1) : (1 : Int32) = zb (wlB len g) := by unfold wlB; rw [decide_eq_true h, decide_eq_true h2]; rfl
theorem wl_f1 {len g : Nat} (h : ¬ 3 + 4 * g + 3 = len) : (0 : Int32) = zb (wlB len g) := by unfold wlB; rw [decide_eq_false h]; rfl
theorem wl_f2 {len g : Nat} (h : ¬ 1 < g + 1) : (0 : Int32) = zb (wlB len g) := by unfold wlB; rw [decide_eq_false h, Bool.and_false]; rfl
theorem wl_no {len g : Nat} (h : 3 + 4 * g + 3 < len) : wlB len g = false := by unfold wlB; rw [decide_eq_false (by omega)]; rfl
theorem wl_y {len g : Nat} (h : wlB len g = true) : g + 1 = (len - 2) / 4 := by
  unfold wlB at h
  simp only [Bool.and_eq_true, decide_eq_true_eq] at h
  omega
theorem krd {h : hp} {len : Nat} {pg : zF} {p g : Nat} {b : Bool} (e : ffN pg len = p) (e2 : isP pg len = b) (hg : b = true → g = (len - 2) / 4) : KRd h len pg (some (.int (nI p))) (rdM h b g) := by
  subst e; subst e2; exact ⟨rfl, g, rfl, hg⟩
theorem fx_dig {pg : zF} {len p : Nat} (h : p < 2) : (decide (p < len) && digB (pg p) (nI 10)) = fxB pg len p := by
  unfold fxB fitB
  rw [if_pos h]
  rfl
theorem fx_sem {pg : zF} {len : Nat} : fxB pg len 2 = decide (atI pg len 2 = 59) := by
  unfold fxB fitB
  rw [if_neg (by decide), if_pos rfl]
  by_cases q : 2 < len
  · rw [at_t q, decide_eq_true q, Bool.true_and]
  · rw [at_f q, decide_eq_false q]; rfl
