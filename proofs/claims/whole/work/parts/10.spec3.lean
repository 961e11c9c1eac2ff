/-! the text "gchpk", the page -/
def chr (j : Nat) : Int32 := ([103, 99, 104, 112, 107] : List Int32).getD j 0
theorem chr_c : ∀ j, j < 5 → ((chr j &&& 255).toUInt32 % 65536).toInt32 = chr j := by decide +kernel
theorem chr_n : ∀ j, j < 5 → narrow .char (.int (chr j)) = .int (chr j) := by
  intro j hj
  rcases (show j = 0 ∨ j = 1 ∨ j = 2 ∨ j = 3 ∨ j = 4 by omega) with rfl | rfl | rfl | rfl | rfl <;> rfl
def kofI (c : Int32) : Int32 := if c = 103 then 0 else if c = 99 then 1 else if c = 104 then 2 else if c = 112 then 3 else if c = 107 then 4 else -1
theorem kof_chr : ∀ i, i < 5 → kofI (chr i) = nI i := by decide +kernel
theorem kof_none {c : Int32} (h : ∀ j, j < 5 → ¬ chr j = c) : kofI c = -1 := by
  have h0 := h 0 (by decide); have h1 := h 1 (by decide); have h2 := h 2 (by decide); have h3 := h 3 (by decide); have h4 := h 4 (by decide)
  have g0 : ¬ c = 103 := fun e => h0 (by rw [e]; rfl)
  have g1 : ¬ c = 99 := fun e => h1 (by rw [e]; rfl)
  have g2 : ¬ c = 104 := fun e => h2 (by rw [e]; rfl)
  have g3 : ¬ c = 112 := fun e => h3 (by rw [e]; rfl)
  have g4 : ¬ c = 107 := fun e => h4 (by rw [e]; rfl)
  simp [kofI, g0, g1, g2, g3, g4]
theorem kof_ok {c : Int32} (h : ¬ kofI c = -1) : okK (kofI c) := by
  unfold kofI at h ⊢
  unfold okK
  split
  · exact Or.inl rfl
  · split
    · exact Or.inr (Or.inl rfl)
    · split
      · exact Or.inr (Or.inr (Or.inl rfl))
      · split
        · exact Or.inr (Or.inr (Or.inr (Or.inl rfl)))
        · split
          · exact Or.inr (Or.inr (Or.inr (Or.inr rfl)))
          · rename_i a b c d e; simp [a, b, c, d, e] at h
def digB (c b : Int32) : Bool := decide (48 ≤ c ∧ c < 48 + b)
def fitG (g st : Nat) (c : Int32) : Bool := decide (g < 8) && (if st = 0 then decide (¬ kofI c = -1) else if st = 1 then digB c 10 else if st = 2 then (decide (c = 45) || digB c (nI g)) else (decide (c = 44) && decide (g < 7)))
def fitB (p : Nat) (c : Int32) : Bool := if p < 2 then digB c 10 else if p = 2 then decide (c = 59) else fitG ((p - 3) / 4) ((p - 3) % 4) c
def ffN (pg : Nat → Int32) (len : Nat) : Nat := fstB (fun p => !fitB p (pg p)) len 0
def isP (pg : Nat → Int32) (len : Nat) : Bool := decide (3 < len ∧ (len - 3) % 4 = 3) && (decide (2 ≤ (len - 2) / 4) && decide (ffN pg len = len))
/-- how many hints, from i on, till what he needs is no more than others count; none: -1 -/
def htI (k : Int32) (a : Nat) (ot : Int32) : Nat → Nat → Int32
  | 0, _ => -1
  | r + 1, i => if ndsI k (nI (a - i)) ≤ ot then nI i else htI k a ot r (i + 1)
def htT (k : Int32) (a : Nat) (ot : Int32) : Int32 := htI k a ot (a + 1) 0
def z_r3 (h : hp) (x : Nat) (a : Nat → Int32) (y : Nat) (b : Nat → Int32) (z : Nat) (c : Nat → Int32) : hp := z_row (z_row (z_row h x a) y b) z c
theorem z_r3_1 {h : hp} {x y z j : Nat} {a b c : Nat → Int32} {v : Int32} (h1 : x ≠ y) (h2 : x ≠ z) : z_up (z_r3 h x a y b z c) x j v = z_r3 h x (upd a j v) y b z c := by
  unfold z_r3
  rw [z_up_row, z_row_ne h2, z_row_ne h1, z_row_at, z_row_comm (Ne.symm h2), z_row_comm (Ne.symm h1), z_row_row]
theorem z_r3_2 {h : hp} {x y z j : Nat} {a b c : Nat → Int32} {v : Int32} (h3 : y ≠ z) : z_up (z_r3 h x a y b z c) y j v = z_r3 h x a y (upd b j v) z c := by
  unfold z_r3
  rw [z_up_row, z_row_ne h3, z_row_at, z_row_comm (Ne.symm h3), z_row_row]
theorem z_r3_3 {h : hp} {x y z j : Nat} {a b c : Nat → Int32} {v : Int32} : z_up (z_r3 h x a y b z c) z j v = z_r3 h x a y b z (upd c j v) := by
  unfold z_r3
  rw [z_up_row, z_row_at, z_row_row]
/-- a row filled from below -/
def rdR (f old : Nat → Int32) (i : Nat) : Nat → Int32 := fun g => if g < i then f g else old g
theorem rdR_0 (f old : Nat → Int32) : rdR f old 0 = old := by funext g; simp [rdR]
theorem rdR_s (f old : Nat → Int32) (i : Nat) : upd (rdR f old i) i (f i) = rdR f old (i + 1) := by
  funext g
  by_cases e : g = i
  · subst e; simp [upd, rdR]
  · have : (g < i + 1) ↔ g < i := by omega
    simp [upd, rdR, e, this]
def pgK (pg : Nat → Int32) (g : Nat) : Int32 := kofI (pg (3 + 4 * g))
def pgS (pg : Nat → Int32) (g : Nat) : Int32 := pg (3 + 4 * g + 1) - 48
def pgF (pg : Nat → Int32) (g : Nat) : Int32 := if pg (3 + 4 * g + 2) = 45 then -1 else pg (3 + 4 * g + 2) - 48
def pgD (pg : Nat → Int32) : Int32 := 10 * (pg 0 - 48) + (pg 1 - 48)
theorem nI_nle2 {a b : Nat} (h : b < a) (ha : a < 2 ^ 31) : ¬ nI a ≤ nI b := nI_ge h ha
theorem fst_le (c : Nat → Bool) : ∀ r i, fstB c r i ≤ i + r
  | 0, i => Nat.le_refl i
  | r + 1, i => by
    unfold fstB
    have := fst_le c r (i + 1)
    cases c i <;> simp <;> omega
theorem ff_le (pg : Nat → Int32) (len : Nat) : ffN pg len ≤ len := by have := fst_le (fun p => !fitB p (pg p)) len 0; unfold ffN; omega
