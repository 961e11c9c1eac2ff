theorem nt_A {k f s' : zF} {n a b sd : Nat} (q : ¬ sdN sd / 65536 % 3 = 0) : ntSt k f n (s', a, b, sd) = (hsS s' a b, hsH k s' f n a b, b - pop a, sdN sd) := by
  unfold ntSt; rw [if_neg q]; rfl
theorem nt_B {k f s' : zF} {n a b sd : Nat} (q : sdN sd / 65536 % 3 = 0) (hb : a.testBit (sdN (sdN sd) / 65536 % n) = true) : ntSt k f n (s', a, b, sd) = (upd s' (sdN (sdN sd) / 65536 % n) (lsI (s' (sdN (sdN sd) / 65536 % n))), a, b, sdN (sdN sd)) := by
  unfold ntSt; rw [if_pos q]; dsimp only; rw [if_pos hb]
theorem nt_C {k f s' : zF} {n a b sd : Nat} (q : sdN sd / 65536 % 3 = 0) (hb : a.testBit (sdN (sdN sd) / 65536 % n) = false) : ntSt k f n (s', a, b, sd) = (s', a, b, sdN (sdN sd)) := by
  unfold ntSt; rw [if_pos q]; dsimp only; rw [if_neg (by rw [hb]; decide)]
theorem it_s {F : zF × Nat × Nat × Nat → zF × Nat × Nat × Nat} {r : Nat} {x y z : zF × Nat × Nat × Nat} (h : itS F (r + 1) x = z) (e : F x = y) : itS F r y = z := by rw [← e]; exact h
theorem kdl {h h' : hp} {x : Int64 × zS} {v : Int64} {S' : zS} (e : x = (v, S')) (hD : D h' S') (hf : fr30 h h') : KD h (.long x.1) x.2 (some (.long v)) h' := by
  subst e; exact ⟨rfl, hD, hf⟩
theorem nar01 {x : Int32} (h : x = 0 ∨ x = 1) : vp_nar .boolean x = x := by rcases h with rfl | rfl <;> rfl
theorem out9 {w : Int32} (h : inR w 0 9 = false) : w.toInt < 0 ∨ 9 < w.toInt := by
  have h1 := of_decide_eq_false h
  rw [Int32.le_iff_toInt_le, Int32.le_iff_toInt_le] at h1
  have e0 : (0 : Int32).toInt = 0 := rfl
  have e9 : (9 : Int32).toInt = 9 := rfl
  omega
def OD (h hh : hp) : Prop := (∀ r, r ≠ 25 ∧ r ≠ 26 → hh.1 r = h.1 r) ∧ hh.2 = h.2
theorem OD_rf {h : hp} : OD h h := ⟨fun _ _ => rfl, rfl⟩
theorem OD_ch {h hh : hp} {ot tn A : Nat} (hO : OD h hh) : OD h (chX hh ot tn A) := by
  refine ⟨fun r hr => ?_, hO.2⟩
  unfold chX
  rw [z_up_ne hr.1, z_up_ne hr.1, z_row_ne hr.2]
  exact hO.1 r hr
