theorem z_r3_id {h : hp} {x y z : Nat} {a b c : zF} (ha : h.1 x = a) (hb : h.1 y = b) (hc : h.1 z = c) : z_r3 h x a y b z c = h := by
  subst ha; subst hb; subst hc
  unfold z_r3
  rw [z_row_id, z_row_id, z_row_id]
def z_r2 (h : hp) (x : Nat) (a : zF) (y : Nat) (b : zF) : hp := z_row (z_row h x a) y b
theorem z_r2_1 {h : hp} {x y j : Nat} {a b : zF} {v : Int32} (h1 : x ≠ y) : z_up (z_r2 h x a y b) x j v = z_r2 h x (upd a j v) y b := by
  unfold z_r2
  rw [z_up_row, z_row_ne h1, z_row_at, z_row_comm (Ne.symm h1), z_row_row]
theorem z_r2_2 {h : hp} {x y j : Nat} {a b : zF} {v : Int32} : z_up (z_r2 h x a y b) y j v = z_r2 h x a y (upd b j v) := by
  unfold z_r2
  rw [z_up_row, z_row_at, z_row_row]
theorem z_r2_id {h : hp} {x y : Nat} {a b : zF} (ha : h.1 x = a) (hb : h.1 y = b) : z_r2 h x a y b = h := by
  subst ha; subst hb
  unfold z_r2
  rw [z_row_id, z_row_id]
theorem pgD_eq {pg : zF} : 10 * (pg 0 - 48) + pg 1 - 48 = pgD pg := by
  unfold pgD
  rw [Int32.sub_eq_add_neg (_ + _) 48, Int32.add_assoc, ← Int32.sub_eq_add_neg]
theorem f9_r2 {h0 h : hp} {x y : Nat} {a b : zF} (hf : fr9 h0 h) (hx : 30 ≤ x) (hy : 30 ≤ y) : fr9 h0 (z_r2 h x a y b) := f9_row (f9_row hf hx) hy
theorem f9_r3 {h0 h : hp} {x y z : Nat} {a b c : zF} (hf : fr9 h0 h) (hx : 30 ≤ x) (hy : 30 ≤ y) (hz : 30 ≤ z) : fr9 h0 (z_r3 h x a y b z c) := f9_row (f9_row (f9_row hf hx) hy) hz
/-! the digest's walk -/
def XQ (h hh : hp) (V : Int64) : Prop := OX h hh ∧ hh.2 30 31 = V
theorem XQ_mix {h hh : hp} {V : Int64} {v : Int32} (hX : XQ h hh V) : XQ h (z_upL hh 30 31 (mxL V v)) (mxL V v) := ⟨OX_upL hX.1, upL_at⟩
theorem XQ_OM {h hh h2 : hp} {V : Int64} (hX : XQ h hh V) (hO : OM hh h2) : XQ h h2 V := ⟨OX_tr hX.1 hO.X, (hO.2.2.2 30 31 (by decide)).trans hX.2⟩
theorem MG_OX {h hh : hp} {n : Nat} {k s f : zF} {hr fd ho : Nat} (hG : MG h n k s f hr fd ho) (hO : OX h hh) : MG hh n k s f hr fd ho := hG.mv (hO.2.1 1 (by decide)) (hO.2.1 4 (by decide)) (hO.2.1 2 (by decide)) (hO.2.1 3 (by decide)) (hO.1 31 (by decide)) (hO.1 32 (by decide)) (hO.1 33 (by decide))
theorem Me_OX {h hh : hp} {sz : Nat} {sg so se : zF} (hE : Me h sz sg so se) (hO : OX h hh) : Me hh sz sg so se := hE.mv (hO.2.1 8 (by decide)) (hO.1 34 (by decide)) (hO.1 35 (by decide)) (hO.1 36 (by decide))
theorem MP_OX {h hh : hp} {len : Nat} {pg : zF} (hP : MP h len pg) (hO : OX h hh) : MP hh len pg := hP.mv (hO.2.1 12 (by decide)) (hO.1 37 (by decide))
