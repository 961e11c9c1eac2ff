/-! what is asked of a party: k kinds, s shynesses, f friends (as the cells hold them), n guests, hr who is here (bits) -/
def gon (n hr : Nat) : Nat := dif (2 ^ n - 1) hr
theorem gon_lt (n hr : Nat) : gon n hr < 2 ^ n := dif_lt (by have := Nat.two_pow_pos n; omega)
theorem gon_bit (n hr i : Nat) : (gon n hr).testBit i = (decide (i < n) && !hr.testBit i) := by rw [gon, dif_bit, all_bit]
def cntI (k : Nat → Int32) (m : Nat) : Int32 := sumI (fun i => cond (m.testBit i) (ctsI (k i)) 0) 8
def shyI (s : Nat → Int32) (m : Nat) : Int32 := sumI (fun i => cond (m.testBit i) (s i) 0) 8
def frB (f : Nat → Int32) (c g : Nat) : Bool := decide (f g = -1) || c.testBit (f g).toNatClampNeg
def canB (k s f : Nat → Int32) (c g : Nat) : Bool := frB f c g && decide (ndsI (k g) (s g) ≤ cntI k c - ctsI (k g))
def wcB (k s f : Nat → Int32) (n hr m i : Nat) : Bool := m.testBit i && canB k s f (m ||| gon n hr) i
def wcg (k s f : Nat → Int32) (n hr m : Nat) : Nat := orb (wcB k s f n hr m) 8
def itN (F : Nat → Nat) : Nat → Nat → Nat
  | 0, m => m
  | r + 1, m => itN F r (F m)
theorem itN_out (F : Nat → Nat) : ∀ (r m : Nat), F (itN F r m) = itN F (r + 1) m
  | 0, _ => rfl
  | r + 1, m => itN_out F r (F m)
def mst (k s f : Nat → Int32) (n hr m : Nat) : Nat := itN (wcg k s f n hr) 8 m
def alB (k s f : Nat → Int32) (n hr i : Nat) : Bool := hr.testBit i && (frB f (gon n hr) i && decide (ndsI (k i) (s i) ≤ cntI k (gon n hr)))
def alo (k s f : Nat → Int32) (n hr : Nat) : Nat := orb (alB k s f n hr) 8
def Rk (n : Nat) (k s f : Nat → Int32) : Prop := n ≤ 8 ∧ (∀ g, g < n → okK (k g)) ∧ (∀ g, g < n → ∃ a, a ≤ 9 ∧ s g = nI a) ∧ ∀ g, g < n → f g = -1 ∨ ∃ j, j < g ∧ f g = nI j
/-- the Room at o -/
def ro (o : Nat) : Prop := o = 3 ∨ o = 11 ∨ o = 19
theorem ro_s {o : Nat} (h : ro o) : z_sh[o]? = some (.inr (5, [o + 3, o + 4, o + 5, 0, 0, 0, 0])) := by rcases h with rfl | rfl | rfl <;> rfl
theorem ro_1 {o : Nat} (h : ro o) : z_sh[o + 1]? = some (.inl (0, 8)) := by rcases h with rfl | rfl | rfl <;> rfl
theorem ro_2 {o : Nat} (h : ro o) : z_sh[o + 2]? = some (.inl (0, 8)) := by rcases h with rfl | rfl | rfl <;> rfl
theorem ro_3 {o : Nat} (h : ro o) : z_sh[o + 3]? = some (.inl (0, 8)) := by rcases h with rfl | rfl | rfl <;> rfl
def Rm (h : hp) (o n hr : Nat) (k s f : Nat → Int32) : Prop := h.1 o 3 = nI n ∧ h.1 o 4 = nI hr ∧ hr < 2 ^ n ∧ Rk n k s f ∧ h.1 (o + 1) = k ∧ h.1 (o + 2) = s ∧ h.1 (o + 3) = f
theorem p8 {n : Nat} (h : n ≤ 8) : 2 ^ n ≤ 256 := Nat.pow_le_pow_right (n := 2) (j := 8) (by decide) h
theorem l31 {m n : Nat} (h : m < 2 ^ n) (hn : n ≤ 8) : m < 2 ^ 31 := by have := p8 hn; omega
theorem ii_1 (i : Nat) : nI i + Int32.ofInt 1 = nI (i + 1) := (nI_succ i).symm
theorem tb_lt {m n i : Nat} (h : m < 2 ^ n) (hb : m.testBit i = true) : i < n := by
  rcases Nat.lt_or_ge i n with q | q
  · exact q
  · rw [bit_lt h q] at hb; cases hb
theorem sumI_t {f : Nat → Int32} {i : Nat} {a x : Int32} (ha : a = sumI f i) (hx : f i = x) : a + x = sumI f (i + 1) := by rw [ha, ← hx]; rfl
theorem sumI_f {f : Nat → Int32} {i : Nat} {a : Int32} (ha : a = sumI f i) (hx : f i = 0) : a = sumI f (i + 1) := by rw [ha]; show _ = sumI f i + f i; rw [hx, Int32.add_zero]
theorem orb_t {c : Nat → Bool} {i a : Nat} (ha : a = orb c i) (hx : c i = true) : a ||| 2 ^ i = orb c (i + 1) := by rw [ha]; show _ = cond (c i) _ _; rw [hx]; rfl
theorem orb_f {c : Nat → Bool} {i a : Nat} (ha : a = orb c i) (hx : c i = false) : a = orb c (i + 1) := by rw [ha]; show _ = cond (c i) _ _; rw [hx]; rfl
theorem z_row_at (h : hp) (r : Nat) (f : Nat → Int32) : (z_row h r f).1 r = f := by simp [z_row, va_up]
theorem z_row_ne {h : hp} {r r' : Nat} {f : Nat → Int32} (e : r' ≠ r) : (z_row h r f).1 r' = h.1 r' := by simp [z_row, va_up, e]
theorem z_row_row (h : hp) (r : Nat) (f g : Nat → Int32) : z_row (z_row h r f) r g = z_row h r g := by
  simp only [z_row, Prod.mk.injEq, and_true]
  funext q
  by_cases e : q = r <;> simp [va_up, e]
theorem z_row_comm {h : hp} {r r' : Nat} {f g : Nat → Int32} (e : r ≠ r') : z_row (z_row h r f) r' g = z_row (z_row h r' g) r f := by
  simp only [z_row, Prod.mk.injEq, and_true]
  funext q
  by_cases e1 : q = r
  · subst e1; simp [va_up, e]
  · by_cases e2 : q = r'
    · subst e2; simp [va_up, e1]
    · simp [va_up, e1, e2]
theorem z_row_id (h : hp) (r : Nat) : z_row h r (h.1 r) = h := by
  obtain ⟨a, b⟩ := h
  simp only [z_row, Prod.mk.injEq, and_true]
  funext q
  by_cases e : q = r
  · subst e; simp [va_up]
  · simp [va_up, e]
theorem z_up_row (h : hp) (i j : Nat) (v : Int32) : z_up h i j v = z_row h i (upd (h.1 i) j v) := rfl
theorem upd_at (f : Nat → Int32) (j : Nat) (v : Int32) : upd f j v j = v := by simp [upd]
theorem upd_ne {f : Nat → Int32} {j q : Nat} {v : Int32} (e : q ≠ j) : upd f j v q = f q := by simp [upd, e]
theorem upd_upd (f : Nat → Int32) (j : Nat) (v w : Int32) : upd (upd f j v) j w = upd f j w := by
  funext q
  by_cases e : q = j <;> simp [upd, e]
theorem upd_id (f : Nat → Int32) (j : Nat) : upd f j (f j) = f := by
  funext q
  by_cases e : q = j
  · subst e; simp [upd]
  · simp [upd, e]
theorem z_up_up (h : hp) (i j : Nat) (v w : Int32) : z_up (z_up h i j v) i j w = z_up h i j w := by
  rw [z_up_row, z_up_row, z_up_row, z_row_row, z_row_at, upd_upd]
theorem z_up_at (h : hp) (i j : Nat) (v : Int32) : (z_up h i j v).1 i j = v := by rw [z_up_row, z_row_at, upd_at]
theorem z_up_ne {h : hp} {i j r : Nat} {v : Int32} (e : r ≠ i) : (z_up h i j v).1 r = h.1 r := z_row_ne e
theorem z_up_nf {h : hp} {i j q : Nat} {v : Int32} (e : q ≠ j) : (z_up h i j v).1 i q = h.1 i q := by rw [z_up_row, z_row_at, upd_ne e]
theorem z_up_id {h : hp} {i j : Nat} {v : Int32} (e : h.1 i j = v) : z_up h i j v = h := by rw [z_up_row, ← e, upd_id, z_row_id]
/-- the next shyness -/
def lsI (x : Int32) : Int32 := nI (x.toNatClampNeg - 1)
theorem lsI_max : ∀ a, a < 10 → maxI 0 (nI a - 1) = nI (a - 1) := by decide +kernel
theorem lsI_nI {a : Nat} (h : a ≤ 9) : lsI (nI a) = nI (a - 1) := by rw [lsI, nI_clamp (by omega)]
def lesR (s : Nat → Int32) (hr i : Nat) : Nat → Int32 := fun g => if g < i ∧ hr.testBit g = true then lsI (s g) else s g
theorem lesR_0 (s : Nat → Int32) (hr : Nat) : lesR s hr 0 = s := by funext g; simp [lesR]
theorem lesR_t {s : Nat → Int32} {hr i : Nat} (hb : hr.testBit i = true) : upd (lesR s hr i) i (lsI (s i)) = lesR s hr (i + 1) := by
  funext g
  by_cases e : g = i
  · subst e; simp [upd, lesR, hb]
  · have : (g < i + 1) ↔ g < i := by omega
    simp [upd, lesR, e, this]
theorem lesR_f {s : Nat → Int32} {hr i : Nat} (hb : hr.testBit i = false) : lesR s hr i = lesR s hr (i + 1) := by
  funext g
  by_cases e : g = i
  · subst e; simp [lesR, hb]
  · have : (g < i + 1) ↔ g < i := by omega
    simp [lesR, this]
theorem lesR_i (s : Nat → Int32) (hr i : Nat) : lesR s hr i i = s i := by simp [lesR]
theorem Rk_les {n : Nat} {k s f : Nat → Int32} (h : Rk n k s f) (hr i : Nat) : Rk n k (lesR s hr i) f := by
  refine ⟨h.1, h.2.1, fun g hg => ?_, h.2.2.2⟩
  obtain ⟨a, ha, e⟩ := h.2.2.1 g hg
  unfold lesR
  split
  · rw [e, lsI_nI ha]; exact ⟨a - 1, by omega, rfl⟩
  · exact ⟨a, ha, e⟩
/-- the first i below n that has it; n: none -/
def fstB (c : Nat → Bool) : Nat → Nat → Nat
  | 0, i => i
  | r + 1, i => cond (c i) i (fstB c r (i + 1))
def fst8 (m : Nat) : Nat := fstB m.testBit 8 0
theorem low_all : ∀ m, m < 256 → m ≠ 0 → nI m &&& -nI m = nI (2 ^ fst8 m) := by decide +kernel
def goN (k s f : Nat → Int32) (n : Nat) : Nat → Nat → Nat
  | 0, a => a
  | r + 1, a => if alo k s f n a = 0 then a else goN k s f n r (dif a (2 ^ fst8 (alo k s f n a)))
theorem alo_lt {k s f : Nat → Int32} {n hr : Nat} (h : hr < 2 ^ n) : alo k s f n hr < 2 ^ n := lt_bits (fun i hi => by unfold alo alB; rw [orb_bit, bit_lt h hi]; simp)
theorem goN_lt {k s f : Nat → Int32} {n : Nat} : ∀ (r a : Nat), a < 2 ^ n → goN k s f n r a < 2 ^ n
  | 0, _, h => h
  | r + 1, a, h => by
    unfold goN
    split
    · exact h
    · exact goN_lt r _ (dif_lt h)
theorem max_sub {a b : Nat} (ha : a < 2 ^ 30) (hb : b < 2 ^ 30) : maxI 0 (nI a - nI b) = nI (a - b) := by
  unfold maxI
  rcases Nat.lt_or_ge b a with q | q
  · rw [pk_sub (by omega), if_pos (by rw [← nI_0]; exact nI_lt (by omega) (by omega))]
  · rw [show a - b = 0 by omega, nI_0]
    by_cases e : a = b
    · subst e; rw [pk_sub (Nat.le_refl _), Nat.sub_self, nI_0]; simp
    · rw [if_neg]
      intro z
      have := pk_sneg (a := a) (b := b) hb (by omega)
      rw [Int32.lt_iff_toInt_lt] at this z
      omega
def hsS (s : Nat → Int32) (hr fd : Nat) : Nat → Int32 := if fd - pop hr = 0 then lesR s hr 8 else s
def hsH (k s f : Nat → Int32) (n hr fd : Nat) : Nat := goN k (hsS s hr fd) f n 8 hr
def hrX (h : hp) (o : Nat) (s' : Nat → Int32) (fd' hr' : Nat) : hp := z_up (z_row (z_up (z_up h o 6 (h.1 o 6 + 1)) o 5 (nI fd')) (o + 2) s') o 4 (nI hr')
theorem Rk_hs {n : Nat} {k s f : Nat → Int32} (h : Rk n k s f) (hr fd : Nat) : Rk n k (hsS s hr fd) f := by
  unfold hsS
  split
  · exact Rk_les h hr 8
  · exact h
theorem hsH_lt {k s f : Nat → Int32} {n hr fd : Nat} (h : hr < 2 ^ n) : hsH k s f n hr fd < 2 ^ n := goN_lt _ _ h
