/-! bits of ints -/
theorem bs_l : ∀ n, n < 32 → ((nI n &&& 31).toBitVec.smod 32).toNat = n := by decide +kernel
def dif (m b : Nat) : Nat := m ^^^ (m &&& b)
theorem dif_bit (m b i : Nat) : (dif m b).testBit i = (m.testBit i && !b.testBit i) := by
  simp only [dif, Nat.testBit_xor, Nat.testBit_and]
  cases m.testBit i <;> cases b.testBit i <;> rfl
theorem nb_and (a b : Nat) : nI a &&& nI b = nI (a &&& b) := by
  apply Int32.toBitVec_inj.1
  show BitVec.ofNat 32 a &&& BitVec.ofNat 32 b = BitVec.ofNat 32 (a &&& b)
  apply BitVec.eq_of_getLsbD_eq
  intro i hi
  simp [hi]
theorem nb_or (a b : Nat) : nI a ||| nI b = nI (a ||| b) := by
  apply Int32.toBitVec_inj.1
  show BitVec.ofNat 32 a ||| BitVec.ofNat 32 b = BitVec.ofNat 32 (a ||| b)
  apply BitVec.eq_of_getLsbD_eq
  intro i hi
  simp [hi]
theorem nb_dif (a b : Nat) : nI a &&& (nI b ^^^ (-1)) = nI (dif a b) := by
  apply Int32.toBitVec_inj.1
  show BitVec.ofNat 32 a &&& (BitVec.ofNat 32 b ^^^ BitVec.allOnes 32) = BitVec.ofNat 32 (dif a b)
  apply BitVec.eq_of_getLsbD_eq
  intro i hi
  simp only [BitVec.getLsbD_and, BitVec.getLsbD_xor, BitVec.getLsbD_ofNat, BitVec.getLsbD_allOnes, hi, decide_true, Bool.true_and, dif_bit]
  cases a.testBit i <;> cases b.testBit i <;> rfl
theorem nb_shl {g : Nat} (hg : g < 31) : nI 1 <<< (nI g &&& 31) = nI (2 ^ g) := by
  have h : (2 : Nat) ^ g ≤ 2 ^ 30 := Nat.pow_le_pow_right (by decide) (by omega)
  have := pk_shlN (n := 1) (nI g &&& 31) g (bs_l g (by omega)) (by omega)
  rw [this, Nat.one_mul]
theorem nb_bit {m g : Nat} (hm : m < 2 ^ 31) (hg : g < 32) : (nI m >>> (nI g &&& 31)) &&& 1 = zb (m.testBit g) := by
  rw [pk_shrN hm _ g (bs_l g hg)]
  show nI (m / 2 ^ g) &&& nI 1 = _
  rw [nb_and, Nat.and_one_is_mod, Nat.testBit_eq_decide_div_mod_eq]
  rcases Nat.mod_two_eq_zero_or_one (m / 2 ^ g) with e | e <;> rw [e] <;> rfl
theorem zb_1 {b : Bool} : zb b = 1 ↔ b = true := by cases b <;> decide
theorem nb_pow1 {n : Nat} : nI (2 ^ n) - 1 = nI (2 ^ n - 1) := by
  have h : 2 ^ n = (2 ^ n - 1) + 1 := by have := Nat.two_pow_pos n; omega
  rw [h, nI_pred]
  rfl
theorem bit_lt {m n : Nat} (h : m < 2 ^ n) {i : Nat} (hi : n ≤ i) : m.testBit i = false := Nat.testBit_lt_two_pow (Nat.lt_of_lt_of_le h (Nat.pow_le_pow_right (by decide) hi))
theorem lt_bits {m n : Nat} (h : ∀ i, n ≤ i → m.testBit i = false) : m < 2 ^ n := Nat.lt_pow_two_of_testBit m h
theorem dif_lt {m b n : Nat} (h : m < 2 ^ n) : dif m b < 2 ^ n := lt_bits (fun i hi => by rw [dif_bit, bit_lt h hi]; rfl)
theorem or_lt {m b n : Nat} (h : m < 2 ^ n) (h2 : b < 2 ^ n) : m ||| b < 2 ^ n := Nat.or_lt_two_pow h h2
theorem and_lt {m b n : Nat} (h : m < 2 ^ n) : m &&& b < 2 ^ n := lt_bits (fun i hi => by rw [Nat.testBit_and, bit_lt h hi]; rfl)
theorem all_bit (n i : Nat) : (2 ^ n - 1).testBit i = decide (i < n) := Nat.testBit_two_pow_sub_one n i
/-- how many i below n have it -/
def cntB (c : Nat → Bool) : Nat → Nat
  | 0 => 0
  | n + 1 => cntB c n + (c n).toNat
def pop (m : Nat) : Nat := cntB m.testBit 10
theorem cntB_le (c : Nat → Bool) : ∀ n, cntB c n ≤ n
  | 0 => Nat.le_refl 0
  | n + 1 => by
    have := cntB_le c n
    have h2 : (c n).toNat ≤ 1 := by cases c n <;> decide
    unfold cntB
    omega
theorem pop_le (m : Nat) : pop m ≤ 10 := cntB_le _ 10
theorem cntB_congr {c c' : Nat → Bool} : ∀ {n : Nat}, (∀ i, i < n → c i = c' i) → cntB c n = cntB c' n
  | 0, _ => rfl
  | n + 1, h => by
    unfold cntB
    rw [cntB_congr (fun i hi => h i (by omega)), h n (by omega)]
def sumI (f : Nat → Int32) : Nat → Int32
  | 0 => 0
  | n + 1 => sumI f n + f n
theorem sumI_congr {f g : Nat → Int32} : ∀ {n : Nat}, (∀ i, i < n → f i = g i) → sumI f n = sumI g n
  | 0, _ => rfl
  | n + 1, h => by
    unfold sumI
    rw [sumI_congr (fun i hi => h i (by omega)), h n (by omega)]
theorem sumI_add (f : Nat → Int32) (n : Nat) : ∀ k, (∀ i, n ≤ i → i < n + k → f i = 0) → sumI f (n + k) = sumI f n
  | 0, _ => rfl
  | k + 1, h => by
    show sumI f (n + k) + f (n + k) = _
    rw [sumI_add f n k (fun i h1 h2 => h i h1 (by omega)), h (n + k) (by omega) (by omega), Int32.add_zero]
def orb (c : Nat → Bool) : Nat → Nat
  | 0 => 0
  | n + 1 => cond (c n) (orb c n ||| 2 ^ n) (orb c n)
theorem orb_bit (c : Nat → Bool) (i : Nat) : ∀ n, (orb c n).testBit i = (decide (i < n) && c i)
  | 0 => by simp [orb]
  | n + 1 => by
    have ih := orb_bit c i n
    unfold orb
    by_cases hi : i = n
    · subst hi
      cases hc : c i with
      | true => simp [Nat.testBit_two_pow_self]
      | false => simp [ih, hc]
    · have e : decide (i < n + 1) = decide (i < n) := by
        by_cases h : i < n
        · simp [h, Nat.lt_succ_of_lt h]
        · simp [h]; omega
      rw [e, ← ih]
      cases hc : c n with
      | true =>
        simp only [cond_true, Nat.testBit_or]
        rw [Nat.testBit_two_pow_of_ne (by omega)]
        simp
      | false => rfl
theorem orb_lt (c : Nat → Bool) (n : Nat) : orb c n < 2 ^ n := lt_bits (fun i hi => by rw [orb_bit]; simp; omega)
theorem eq_bits {a b : Nat} (n : Nat) (ha : a < 2 ^ n) (hb : b < 2 ^ n) (h : ∀ i, i < n → a.testBit i = b.testBit i) : a = b := by
  apply Nat.eq_of_testBit_eq
  intro i
  rcases Nat.lt_or_ge i n with q | q
  · exact h i q
  · rw [bit_lt ha q, bit_lt hb q]
/-- a truth value as an int -/
theorem zb_t {b : Bool} {v : Int32} (hv : v = 1) (h : b = true) : (some (Value.int v)) = some (Value.int (zb b)) := by rw [hv, h]; rfl
theorem zb_f {b : Bool} {v : Int32} (hv : v = 0) (h : b = false) : (some (Value.int v)) = some (Value.int (zb b)) := by rw [hv, h]; rfl
def inR (k lo hi : Int32) : Bool := decide (lo ≤ k ∧ k ≤ hi)
def okK (k : Int32) : Prop := k = 0 ∨ k = 1 ∨ k = 2 ∨ k = 3 ∨ k = 4
def ctsI (k : Int32) : Int32 := if k = 4 then 2 else 1
def ndsI (k s : Int32) : Int32 := if k = 1 then s / 2 else if k = 2 then s + 2 else if k = 3 ∨ k = 4 then 0 else s
def suchB (k w : Int32) : Bool := decide (w = 0 ∨ w = k ∨ (w = 3 ∧ k = 4))
theorem nle {a b : Int32} (h : ¬ a ≤ b) : b < a := by
  rw [Int32.lt_iff_toInt_lt]; rw [Int32.le_iff_toInt_le] at h; omega
theorem nlt {a b : Int32} (h : ¬ a < b) : b ≤ a := by
  rw [Int32.le_iff_toInt_le]; rw [Int32.lt_iff_toInt_lt] at h; omega
theorem lt_nle {a b : Int32} (h : a < b) : ¬ b ≤ a := by
  rw [Int32.le_iff_toInt_le]; rw [Int32.lt_iff_toInt_lt] at h; omega
