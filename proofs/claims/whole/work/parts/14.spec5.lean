theorem Rm_out {h : hp} {o n hr r : Nat} {t : Nat → Int32} {k s f : Nat → Int32} (hR : Rm h o n hr k s f) (e0 : o ≠ r) (e1 : o + 1 ≠ r) (e2 : o + 2 ≠ r) (e3 : o + 3 ≠ r) : Rm (z_row h r t) o n hr k s f := by
  obtain ⟨g1, g2, g3, g4, g5, g6, g7⟩ := hR
  refine ⟨?_, ?_, g3, g4, ?_, ?_, ?_⟩
  · rw [z_row_ne e0]; exact g1
  · rw [z_row_ne e0]; exact g2
  · rw [z_row_ne e1]; exact g5
  · rw [z_row_ne e2]; exact g6
  · rw [z_row_ne e3]; exact g7
theorem mst_0 (k s f : Nat → Int32) (n hr : Nat) : mst k s f n hr 0 = 0 := by
  apply Nat.eq_of_testBit_eq
  intro i
  rw [Nat.zero_testBit]
  cases e : (mst k s f n hr 0).testBit i with
  | false => rfl
  | true => have := mst_sub e; rw [Nat.zero_testBit] at this; cases this
theorem dif_0 (b : Nat) : dif 0 b = 0 := by simp [dif]
theorem TB_1 {k s f : Nat → Int32} {n hr : Nat} {t : Nat → Int32} (h : t 0 = 0) : TB k s f n hr 1 t := by
  intro m hm _
  obtain rfl : m = 0 := by omega
  rw [h, mst_0]; rfl
theorem TB_0 {k s f : Nat → Int32} {n hr i : Nat} {t : Nat → Int32} (h : TB k s f n hr (i + 1) t) : t 0 = 0 := by
  rw [h 0 (by omega) (dif_0 hr), mst_0]; rfl
theorem TB_skip {k s f : Nat → Int32} {n hr i : Nat} {t : Nat → Int32} (h : TB k s f n hr i t) (hc : chB hr i = false) : TB k s f n hr (i + 1) t := by
  intro m hm hd
  by_cases e : m = i
  · subst e; exact absurd hd (of_decide_eq_false hc)
  · exact h m (by omega) hd
theorem TB_put {k s f : Nat → Int32} {n hr i : Nat} {t : Nat → Int32} (h : TB k s f n hr i t) : TB k s f n hr (i + 1) (upd t i (nI (mst k s f n hr i))) := by
  intro m hm hd
  by_cases e : m = i
  · subst e; rw [upd_at]
  · rw [upd_ne e]; exact h m (by omega) hd
theorem wcg_ch {k s f : Nat → Int32} {n hr m : Nat} (h : dif m hr = 0) : dif (wcg k s f n hr m) hr = 0 := ch_of (fun i hi => ch_bit h (wcg_sub hi))
theorem wcg_le {k s f : Nat → Int32} {n hr m : Nat} : wcg k s f n hr m ≤ m := sub_le (fun _ h => wcg_sub h)
theorem mst_le {k s f : Nat → Int32} {n hr m : Nat} : mst k s f n hr m ≤ m := sub_le (fun _ h => mst_sub h)
def KR (h : hp) (k s f : Nat → Int32) (n hr : Nat) : Option Value → hp → Prop := fun r h' => r = none ∧ ∃ t, h' = z_row (z_up h 23 1 (nI hr)) 24 t ∧ TB k s f n hr (hr + 1) t
def wtR (ot tn : Nat) : Nat → Int32 := fun a => nI (wtN ot tn a)
/-- Euclid's rounds: enough are left -/
def euQ (r a b : Nat) : Prop := (b ≤ a ∧ a * b < 2 ^ r) ∨ (a < b ∧ 1 ≤ r ∧ a * b < 2 ^ (r - 1))
theorem euQ_0 {a b : Nat} (h : euQ 0 a b) : b = 0 := by
  rcases h with ⟨h1, h2⟩ | ⟨-, h2, -⟩
  · rcases Nat.eq_zero_or_pos b with z | z
    · exact z
    · have : 1 ≤ a * b := Nat.mul_pos (by omega) z
      omega
  · omega
theorem euQ_s {r a b : Nat} (hb : 0 < b) (h : euQ (r + 1) a b) : euQ r b (a % b) := by
  have hm := Nat.mod_lt a hb
  left
  refine ⟨by omega, ?_⟩
  rcases h with ⟨h1, h2⟩ | ⟨h1, -, h2⟩
  · have hd : a % b * 2 ≤ a := by
      have h3 := Nat.div_add_mod a b
      have h4 : 1 ≤ a / b := (Nat.one_le_div_iff hb).mpr h1
      have h5 : b * 1 ≤ b * (a / b) := Nat.mul_le_mul_left b h4
      omega
    have h6 : b * (a % b) * 2 ≤ a * b := by
      have : b * (a % b * 2) ≤ b * a := Nat.mul_le_mul_left b hd
      rw [Nat.mul_assoc, Nat.mul_comm a b]; exact this
    rw [Nat.pow_succ] at h2
    omega
  · rw [Nat.mod_eq_of_lt h1, Nat.mul_comm]
    simpa using h2
theorem gcd_s (a b : Nat) : Nat.gcd b (a % b) = Nat.gcd a b := by
  rw [Nat.gcd_comm a b, Nat.gcd_rec b a, Nat.gcd_comm]
theorem euQ_64 {a b : Nat} (ha : a < 2 ^ 31) (hb : b < 2 ^ 31) : euQ 64 a b := by
  have h : a * b ≤ 2 ^ 31 * 2 ^ 31 := Nat.mul_le_mul (by omega) (by omega)
  rw [← Nat.pow_add] at h
  have h2 : (2 : Nat) ^ (31 + 31) < 2 ^ 63 := by decide
  rcases Nat.lt_or_ge a b with q | q
  · exact Or.inr ⟨q, by decide, by show a * b < 2 ^ 63; omega⟩
  · have h3 : (2 : Nat) ^ 63 < 2 ^ 64 := by decide
    exact Or.inl ⟨q, by omega⟩
theorem z_up4 (h : hp) (i p q : Nat) (hpq : p ≠ q) (a b c d : Int32) : z_up (z_up (z_up (z_up h i p a) i q b) i p c) i q d = z_up (z_up h i p c) i q d := by
  simp only [z_up_row, z_row_at, z_row_row]
  congr 1
  funext x
  by_cases e : x = q
  · simp [upd, e]
  · by_cases e2 : x = p <;> simp [upd, e, e2]
def chX (h : hp) (ot tn A : Nat) : hp := z_up (z_up (z_row h 26 (rdR (wtR ot tn) (h.1 26) (ot + 1))) 25 1 (nI (A / Nat.gcd A (10 ^ ot)))) 25 2 (nI (10 ^ ot / Nat.gcd A (10 ^ ot)))
theorem chB_t {hr m : Nat} (h : chB hr m = true) : dif m hr = 0 := of_decide_eq_true h
theorem ab_1 (k s f : Nat → Int32) (n hr g tn : Nat) : abN k s f n hr g tn 1 = 0 := by
  show 0 + cond (abB k s f n hr g 0) _ _ = 0
  rw [show abB k s f n hr g 0 = false from by simp [abB, mst_0]]
  rfl
theorem lsF_k {c : Nat → Bool} {i : Nat} (h : (c (i + 1) && (decide (lsF c i = 0) || decide (pop (i + 1) < pop (lsF c i)))) = false) : lsF c (i + 1) = lsF c i := by
  show (if _ then _ else _) = _
  rw [if_neg (by rw [h]; decide)]
theorem lsF_s {c : Nat → Bool} {i : Nat} (h : (c (i + 1) && (decide (lsF c i = 0) || decide (pop (i + 1) < pop (lsF c i)))) = true) : i + 1 = lsF c (i + 1) := by
  show _ = (if _ then _ else _)
  rw [if_pos h]
