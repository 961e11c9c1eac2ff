/-! THE STATE, as the reference holds it -/
def MP (h : hp) (len : Nat) (pg : zF) : Prop := h.1 30 12 = nI len ∧ h.1 37 = pg
def MG (h : hp) (n : Nat) (k s f : zF) (hr fd ho : Nat) : Prop := h.1 30 1 = nI n ∧ h.1 30 4 = nI hr ∧ h.1 30 2 = nI fd ∧ h.1 30 3 = nI ho ∧ h.1 31 = k ∧ h.1 32 = s ∧ h.1 33 = f
def MK (h : hp) (kept : Bool) (np : Nat) : Prop := h.1 30 0 = nI np ∧ ∃ mk mkp, h.1 30 20 = zb mk ∧ h.1 30 21 = nI mkp ∧ mkp ≤ np ∧ kept = (mk && decide (mkp = np))
def MI (h : hp) (kept : Bool) (ihr : Nat) (ik js : zF) (ifd iho isz : Nat) (isg iso ise : zF) : Prop := kept = true → h.1 30 22 = nI ifd ∧ h.1 30 23 = nI iho ∧ h.1 30 24 = nI ihr ∧ h.1 30 25 = nI isz ∧ h.1 39 = ik ∧ h.1 40 = js ∧ h.1 41 = isg ∧ h.1 42 = iso ∧ h.1 43 = ise
def MX (h : hp) : Prop := dZ8 (h.1 38) ∧ dZ8 (h.1 39) ∧ dZ8 (h.1 40) ∧ dZ6 (h.1 41) ∧ dZ6 (h.1 42) ∧ dZ6 (h.1 43)
def MS (h : hp) : zS → Prop
  | ((len, pg), (n, k, s, f, hr, fd, ho), (sz, sg, so, se), kept, (ihr, ik, js, ifd, iho, (isz, isg, iso, ise)), np) =>
    MP h len pg ∧ MG h n k s f hr fd ho ∧ Me h sz sg so se ∧ MK h kept np ∧ MI h kept ihr ik js ifd iho isz isg iso ise ∧ MX h
def fr9 (h h' : hp) : Prop := ∀ i, i < 30 → h'.1 i = h.1 i ∧ h'.2 i = h.2 i
theorem f9_rf {h : hp} : fr9 h h := fun _ _ => ⟨rfl, rfl⟩
theorem f9_row {h0 h : hp} {j : Nat} {f : zF} (hf : fr9 h0 h) (hj : 30 ≤ j) : fr9 h0 (z_row h j f) := fun i hi => ⟨by rw [z_row_ne (by omega)]; exact (hf i hi).1, (hf i hi).2⟩
theorem f9_up {h0 h : hp} {j q : Nat} {v : Int32} (hf : fr9 h0 h) (hj : 30 ≤ j) : fr9 h0 (z_up h j q v) := f9_row hf hj
theorem f9_tr {h0 h h1 : hp} (h1' : fr9 h0 h) (h2 : fr9 h h1) : fr9 h0 h1 := fun i hi => ⟨(h2 i hi).1.trans (h1' i hi).1, (h2 i hi).2.trans (h1' i hi).2⟩
def KM (h : hp) (a : Value) (S : zS) : Option Value → hp → Prop := fun r h' => r = some a ∧ MS h' S ∧ fr9 h h'
theorem km {h h' : hp} {x : Int32 × zS} {v : Int32} {S' : zS} (e : x = (v, S')) (hD : MS h' S') (hf : fr9 h h') : KM h (.int x.1) x.2 (some (.int v)) h' := by
  subst e; exact ⟨rfl, hD, hf⟩
theorem kml {h h' : hp} {x : Int64 × zS} {v : Int64} {S' : zS} (e : x = (v, S')) (hD : MS h' S') (hf : fr9 h h') : KM h (.long x.1) x.2 (some (.long v)) h' := by
  subst e; exact ⟨rfl, hD, hf⟩
theorem MP.mv {h h' : hp} {len : Nat} {pg : zF} (hD : MP h len pg) (e1 : h'.1 30 12 = h.1 30 12) (e2 : h'.1 37 = h.1 37) : MP h' len pg := ⟨e1.trans hD.1, e2.trans hD.2⟩
theorem MG.mv {h h' : hp} {n : Nat} {k s f : zF} {hr fd ho : Nat} (hD : MG h n k s f hr fd ho) (e1 : h'.1 30 1 = h.1 30 1) (e4 : h'.1 30 4 = h.1 30 4) (e2 : h'.1 30 2 = h.1 30 2) (e3 : h'.1 30 3 = h.1 30 3) (r1 : h'.1 31 = h.1 31) (r2 : h'.1 32 = h.1 32) (r3 : h'.1 33 = h.1 33) : MG h' n k s f hr fd ho := by
  unfold MG at hD ⊢; rw [e1, e2, e3, e4, r1, r2, r3]; exact hD
theorem Me.mv {h h' : hp} {sz : Nat} {sg so se : zF} (hD : Me h sz sg so se) (e1 : h'.1 30 8 = h.1 30 8) (r1 : h'.1 34 = h.1 34) (r2 : h'.1 35 = h.1 35) (r3 : h'.1 36 = h.1 36) : Me h' sz sg so se := by
  unfold Me at hD ⊢; rw [e1, r1, r2, r3]; exact hD
theorem MK.mv {h h' : hp} {kept : Bool} {np : Nat} (hD : MK h kept np) (e1 : h'.1 30 0 = h.1 30 0) (e2 : h'.1 30 20 = h.1 30 20) (e3 : h'.1 30 21 = h.1 30 21) : MK h' kept np := by
  unfold MK at hD ⊢; rw [e1, e2, e3]; exact hD
theorem MI.mv {h h' : hp} {kept : Bool} {ihr : Nat} {ik js : zF} {ifd iho isz : Nat} {isg iso ise : zF} (hD : MI h kept ihr ik js ifd iho isz isg iso ise) (e1 : h'.1 30 22 = h.1 30 22) (e2 : h'.1 30 23 = h.1 30 23) (e3 : h'.1 30 24 = h.1 30 24) (e4 : h'.1 30 25 = h.1 30 25) (r1 : h'.1 39 = h.1 39) (r2 : h'.1 40 = h.1 40) (r3 : h'.1 41 = h.1 41) (r4 : h'.1 42 = h.1 42) (r5 : h'.1 43 = h.1 43) : MI h' kept ihr ik js ifd iho isz isg iso ise := by
  unfold MI at hD ⊢; rw [e1, e2, e3, e4, r1, r2, r3, r4, r5]; exact hD
theorem MX.mv {h h' : hp} (hD : MX h) (r0 : dZ8 (h'.1 38)) (r1 : h'.1 39 = h.1 39) (r2 : h'.1 40 = h.1 40) (r3 : h'.1 41 = h.1 41) (r4 : h'.1 42 = h.1 42) (r5 : h'.1 43 = h.1 43) : MX h' := by
  unfold MX at hD ⊢; rw [r1, r2, r3, r4, r5]; exact ⟨r0, hD.2⟩
theorem MG.Mm {h : hp} {n : Nat} {k s f : zF} {hr fd ho : Nat} (hD : MG h n k s f hr fd ho) (h1 : hr < 2 ^ n) (h2 : Rk n k s f) : Mm h n hr k s f := ⟨hD.1, hD.2.1, h1, h2, hD.2.2.2.2.1, hD.2.2.2.2.2.1, hD.2.2.2.2.2.2⟩
/-- only what was saved, the draws and the digest have moved -/
def OX (h hh : hp) : Prop := (∀ r, r ≠ 30 ∧ r ≠ 38 → hh.1 r = h.1 r) ∧ (∀ j, j ≠ 17 ∧ j ≠ 18 → hh.1 30 j = h.1 30 j) ∧ dZ8 (hh.1 38) ∧ ∀ r, r ≠ 30 → hh.2 r = h.2 r
theorem OM.X {h hh : hp} (hO : OM h hh) : OX h hh := ⟨hO.1, hO.2.1, hO.2.2.1, fun r hr => funext (fun j => hO.2.2.2 r j (fun z => absurd z hr))⟩
theorem OX_rf {h : hp} (h38 : dZ8 (h.1 38)) : OX h h := ⟨fun _ _ => rfl, fun _ _ => rfl, h38, fun _ _ => rfl⟩
theorem OX_tr {h h1 h2 : hp} (a : OX h h1) (b : OX h1 h2) : OX h h2 := ⟨fun r hr => (b.1 r hr).trans (a.1 r hr), fun j hj => (b.2.1 j hj).trans (a.2.1 j hj), b.2.2.1, fun r hr => (b.2.2.2 r hr).trans (a.2.2.2 r hr)⟩
theorem OX_upL {h hh : hp} {v : Int64} {j : Nat} (a : OX h hh) : OX h (z_upL hh 30 j v) := ⟨a.1, a.2.1, a.2.2.1, fun r hr => by
  have : (z_upL hh 30 j v).2 r = hh.2 r := by simp [z_upL, va_up, hr]
  rw [this]; exact a.2.2.2 r hr⟩
theorem MS_OX {h hh : hp} {S : zS} (hD : MS h S) (hO : OX h hh) : MS hh S ∧ fr9 h hh := by
  obtain ⟨⟨len, pg⟩, ⟨n, k, s, f, hr, fd, ho⟩, ⟨sz, sg, so, se⟩, kept, ⟨ihr, ik, js, ifd, iho, ⟨isz, isg, iso, ise⟩⟩, np⟩ := S
  obtain ⟨hP, hG, hE, hK, hI, hX⟩ := hD
  obtain ⟨a, b, c, d⟩ := hO
  exact ⟨⟨hP.mv (b 12 (by decide)) (a 37 (by decide)), hG.mv (b 1 (by decide)) (b 4 (by decide)) (b 2 (by decide)) (b 3 (by decide)) (a 31 (by decide)) (a 32 (by decide)) (a 33 (by decide)), hE.mv (b 8 (by decide)) (a 34 (by decide)) (a 35 (by decide)) (a 36 (by decide)), hK.mv (b 0 (by decide)) (b 20 (by decide)) (b 21 (by decide)),
    hI.mv (b 22 (by decide)) (b 23 (by decide)) (b 24 (by decide)) (b 25 (by decide)) (a 39 (by decide)) (a 40 (by decide)) (a 41 (by decide)) (a 42 (by decide)) (a 43 (by decide)), hX.mv c (a 39 (by decide)) (a 40 (by decide)) (a 41 (by decide)) (a 42 (by decide)) (a 43 (by decide))⟩, fun i hi => ⟨a i (by omega), d i (by omega)⟩⟩
theorem b8_c : ∀ j, j < 127 → (nI j).toInt8.toInt32 = nI j := by decide +kernel
theorem b8_n : ∀ j, j < 127 → vp_nar .byte (nI j) = nI j := by decide +kernel
theorem inR_c {c : Int32} (h : inR c 32 126 = true) : ∃ j, j < 127 ∧ c = nI j := by
  obtain ⟨h1, h2⟩ := of_decide_eq_true h
  have h0 : ¬ c < 0 := fun z => by
    rw [Int32.lt_iff_toInt_lt] at z
    rw [Int32.le_iff_toInt_le] at h1
    have e0 : (0 : Int32).toInt = 0 := rfl
    have e1 : (32 : Int32).toInt = 32 := rfl
    omega
  obtain ⟨j, hj, rfl⟩ := nI_of h0
  have := (nI_leI (b := 126) hj (by decide)).mp h2
  exact ⟨j, by omega, rfl⟩
theorem le_pw {x : Int32} {n : Nat} (hn : n ≤ 8) : x ≤ nI (2 ^ n - 1) ↔ x < nI (2 ^ n) := by
  have hp := p8 hn
  have h1 := Nat.two_pow_pos n
  rw [Int32.le_iff_toInt_le, Int32.lt_iff_toInt_lt, nI_toInt (by omega), nI_toInt (by omega)]
  omega
theorem le0 {x : Int32} (h : x ≤ 0) : ¬ 0 < x := fun z => by
  rw [Int32.lt_iff_toInt_lt] at z; rw [Int32.le_iff_toInt_le] at h; omega
theorem nle0 {x : Int32} (h : ¬ x ≤ 0) : 0 < x := by
  rw [Int32.lt_iff_toInt_lt]; rw [Int32.le_iff_toInt_le] at h; omega
