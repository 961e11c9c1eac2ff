theorem hiR_f {k s f : Nat → Int32} {c m r i : Nat} {acc : Int32} (h : m.testBit i = false) : hiR k s f c m (r + 1) i acc = hiR k s f c m r (i + 1) acc := by
  show (if _ then _ else _) = _
  rw [if_neg (by rw [h]; decide)]
theorem hiR_n {k s f : Nat → Int32} {c m r i a : Nat} {acc : Int32} (h : m.testBit i = true) (hs : s i = nI a) (ha : a ≤ 9) (hc : htT (k i) a (cntI k c - ctsI (k i)) = -1 ∨ frB f c i = false) : hiR k s f c m (r + 1) i acc = -1 := by
  show (if _ then _ else _) = _
  rw [if_pos h, hs, nI_clamp (by omega), if_pos hc]
theorem hiR_s {k s f : Nat → Int32} {c m r i a : Nat} {acc : Int32} (h : m.testBit i = true) (hs : s i = nI a) (ha : a ≤ 9) (hc : ¬ htT (k i) a (cntI k c - ctsI (k i)) = -1) (hf : frB f c i = true) : hiR k s f c m (r + 1) i acc = hiR k s f c m r (i + 1) (acc + htT (k i) a (cntI k c - ctsI (k i))) := by
  show (if _ then _ else _) = _
  rw [if_pos h, hs, nI_clamp (by omega), if_neg]
  rintro (q | q)
  · exact hc q
  · rw [hf] at q; cases q
theorem hoR_s {k s f : Nat → Int32} {n hr i : Nat} {t : Nat → Int32} (h : dif (i + 1) hr = 0) : noteR (hoR k s f n hr t i) (i + 1) (hiT k s f n hr (i + 1)) = hoR k s f n hr t (i + 1) := by
  show _ = (if _ then _ else _)
  rw [if_pos h]
theorem hoR_k {k s f : Nat → Int32} {n hr i : Nat} {t : Nat → Int32} (h : ¬ dif (i + 1) hr = 0) : hoR k s f n hr t i = hoR k s f n hr t (i + 1) := by
  show _ = (if _ then _ else _)
  rw [if_neg h]
def hm1 : Nat → Int32 := fun _ => -1
def hoT (k s f : Nat → Int32) (n hr : Nat) (old : Nat → Int32) : Nat → Int32 := hoR k s f n hr (rdR hm1 old 8) hr
