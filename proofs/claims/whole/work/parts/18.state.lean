/-! THE STATE, as both hold it: the page (len, pg); the party (n, k, s, f, hr, fd, ho); what is seen (sz, sg, so, se); whether an image is kept; the image (ihr, ik, js, ifd, iho, (isz, isg, iso, ise)); how often a party was read. -/
abbrev zF : Type := Nat → Int32
abbrev zS : Type := (Nat × zF) × (Nat × zF × zF × zF × Nat × Nat × Nat) × (Nat × zF × zF × zF) × Bool × (Nat × zF × zF × Nat × Nat × (Nat × zF × zF × zF)) × Nat
def dZ8 (f : zF) : Prop := ∀ j, 8 ≤ j → f j = 0
def dZ6 (f : zF) : Prop := ∀ j, 6 ≤ j → f j = 0
def okE (sz : Nat) (sg so se : zF) : Prop := sz ≤ 6 ∧ dZ6 sg ∧ dZ6 so ∧ dZ6 se ∧ ∀ i, se i = 0 ∨ se i = 1
def OkS : zS → Prop
  | ((len, pg), (n, k, s, f, hr, fd, ho), (sz, sg, so, se), kept, (ihr, ik, js, ifd, iho, (isz, isg, iso, ise)), _) =>
    (len ≤ 36 ∧ ∀ p, p < len → 32 ≤ pg p ∧ pg p ≤ 126) ∧ (Rk n k s f ∧ hr < 2 ^ n ∧ fd ≤ 99 ∧ ho ≤ 999 ∧ dZ8 k ∧ dZ8 s ∧ dZ8 f) ∧ okE sz sg so se ∧ (kept = true → Rk n ik js f ∧ ihr < 2 ^ n ∧ ifd ≤ 99 ∧ iho ≤ 999 ∧ dZ8 ik ∧ dZ8 js ∧ okE isz isg iso ise)
def DP (h : hp) (len : Nat) (pg : zF) : Prop := h.1 1 1 = nI len ∧ h.1 2 = pg
def DG (h : hp) (n : Nat) (k s f : zF) (hr fd ho : Nat) : Prop := h.1 3 3 = nI n ∧ h.1 3 4 = nI hr ∧ h.1 3 5 = nI fd ∧ h.1 3 6 = nI ho ∧ h.1 4 = k ∧ h.1 5 = s ∧ h.1 6 = f
def DE (h : hp) (sz : Nat) (sg so se : zF) : Prop := h.1 7 3 = nI sz ∧ h.1 8 = sg ∧ h.1 9 = so ∧ h.1 10 = se
def DK (h : hp) (kept : Bool) (np : Nat) : Prop := h.1 0 10 = zb kept ∧ h.1 0 11 = nI np
def DI (h : hp) (kept : Bool) (n : Nat) (f : zF) (ihr : Nat) (ik js : zF) (ifd iho isz : Nat) (isg iso ise : zF) : Prop := kept = true → h.1 11 3 = nI n ∧ h.1 11 4 = nI ihr ∧ h.1 11 5 = nI ifd ∧ h.1 11 6 = nI iho ∧ h.1 12 = ik ∧ h.1 13 = js ∧ h.1 14 = f ∧ h.1 15 3 = nI isz ∧ h.1 16 = isg ∧ h.1 17 = iso ∧ h.1 18 = ise
def Dx (h : hp) : Prop := h.1 24 0 = 0 ∧ dZ8 (h.1 12) ∧ dZ8 (h.1 13) ∧ dZ8 (h.1 14) ∧ dZ8 (h.1 20) ∧ dZ8 (h.1 21) ∧ dZ8 (h.1 22) ∧ dZ6 (h.1 16) ∧ dZ6 (h.1 17) ∧ dZ6 (h.1 18)
def D (h : hp) : zS → Prop
  | ((len, pg), (n, k, s, f, hr, fd, ho), (sz, sg, so, se), kept, (ihr, ik, js, ifd, iho, (isz, isg, iso, ise)), np) =>
    DP h len pg ∧ DG h n k s f hr fd ho ∧ DE h sz sg so se ∧ DK h kept np ∧ DI h kept n f ihr ik js ifd iho isz isg iso ise ∧ Dx h
def fr30 (h h' : hp) : Prop := ∀ i, 30 ≤ i → h'.1 i = h.1 i ∧ h'.2 i = h.2 i
theorem fr_rf {h : hp} : fr30 h h := fun _ _ => ⟨rfl, rfl⟩
theorem fr_row {h0 h : hp} {j : Nat} {f : zF} (hf : fr30 h0 h) (hj : j < 30) : fr30 h0 (z_row h j f) := fun i hi => ⟨by rw [z_row_ne (by omega)]; exact (hf i hi).1, (hf i hi).2⟩
theorem fr_up {h0 h : hp} {j q : Nat} {v : Int32} (hf : fr30 h0 h) (hj : j < 30) : fr30 h0 (z_up h j q v) := fr_row hf hj
theorem fr_tr {h0 h h1 : hp} (h1' : fr30 h0 h) (h2 : fr30 h h1) : fr30 h0 h1 := fun i hi => ⟨(h2 i hi).1.trans (h1' i hi).1, (h2 i hi).2.trans (h1' i hi).2⟩
def KD (h : hp) (a : Value) (S : zS) : Option Value → hp → Prop := fun r h' => r = some a ∧ D h' S ∧ fr30 h h'
theorem DP.mv {h h' : hp} {len : Nat} {pg : zF} (hD : DP h len pg) (e1 : h'.1 1 = h.1 1) (e2 : h'.1 2 = h.1 2) : DP h' len pg := ⟨by rw [e1]; exact hD.1, by rw [e2]; exact hD.2⟩
theorem DG.mv {h h' : hp} {n : Nat} {k s f : zF} {hr fd ho : Nat} (hD : DG h n k s f hr fd ho) (e1 : h'.1 3 = h.1 3) (e2 : h'.1 4 = h.1 4) (e3 : h'.1 5 = h.1 5) (e4 : h'.1 6 = h.1 6) : DG h' n k s f hr fd ho := by
  unfold DG at hD ⊢; rw [e1, e2, e3, e4]; exact hD
theorem DE.mv {h h' : hp} {sz : Nat} {sg so se : zF} (hD : DE h sz sg so se) (e1 : h'.1 7 = h.1 7) (e2 : h'.1 8 = h.1 8) (e3 : h'.1 9 = h.1 9) (e4 : h'.1 10 = h.1 10) : DE h' sz sg so se := by
  unfold DE at hD ⊢; rw [e1, e2, e3, e4]; exact hD
theorem DK.mv {h h' : hp} {kept : Bool} {np : Nat} (hD : DK h kept np) (e1 : h'.1 0 = h.1 0) : DK h' kept np := by
  unfold DK at hD ⊢; rw [e1]; exact hD
theorem DI.mv {h h' : hp} {kept : Bool} {n : Nat} {f : zF} {ihr : Nat} {ik js : zF} {ifd iho isz : Nat} {isg iso ise : zF} (hD : DI h kept n f ihr ik js ifd iho isz isg iso ise) (e1 : h'.1 11 = h.1 11) (e2 : h'.1 12 = h.1 12) (e3 : h'.1 13 = h.1 13) (e4 : h'.1 14 = h.1 14) (e5 : h'.1 15 = h.1 15) (e6 : h'.1 16 = h.1 16) (e7 : h'.1 17 = h.1 17) (e8 : h'.1 18 = h.1 18) : DI h' kept n f ihr ik js ifd iho isz isg iso ise := by
  unfold DI at hD ⊢; rw [e1, e2, e3, e4, e5, e6, e7, e8]; exact hD
theorem Dx.mv {h h' : hp} (hD : Dx h) (e0 : h'.1 24 0 = 0) (e2 : h'.1 12 = h.1 12) (e3 : h'.1 13 = h.1 13) (e4 : h'.1 14 = h.1 14) (e6 : h'.1 16 = h.1 16) (e7 : h'.1 17 = h.1 17) (e8 : h'.1 18 = h.1 18) (z1 : dZ8 (h'.1 20)) (z2 : dZ8 (h'.1 21)) (z3 : dZ8 (h'.1 22)) : Dx h' :=
  ⟨e0, by rw [e2]; exact hD.2.1, by rw [e3]; exact hD.2.2.1, by rw [e4]; exact hD.2.2.2.1, z1, z2, z3, by rw [e6]; exact hD.2.2.2.2.2.2.2.1, by rw [e7]; exact hD.2.2.2.2.2.2.2.2.1, by rw [e8]; exact hD.2.2.2.2.2.2.2.2.2⟩
theorem DG.Rm {h : hp} {n : Nat} {k s f : zF} {hr fd ho : Nat} (hD : DG h n k s f hr fd ho) (h1 : hr < 2 ^ n) (h2 : Rk n k s f) : Rm h 3 n hr k s f := ⟨hD.1, hD.2.1, h1, h2, hD.2.2.2.2.1, hD.2.2.2.2.2.1, hD.2.2.2.2.2.2⟩
theorem cpy8 {f g : zF} (hf : dZ8 f) (hg : dZ8 g) : va_cpy f g 0 0 8 = f := by
  funext j
  unfold va_cpy
  by_cases h : j < 8
  · rw [if_pos (by omega), Nat.sub_zero, Nat.zero_add]
  · rw [if_neg (by omega), hf j (by omega), hg j (by omega)]
theorem rd6 {f g : zF} (hf : dZ6 f) (hg : dZ6 g) : rdR f g 6 = f := by
  funext j
  unfold rdR
  by_cases h : j < 6
  · rw [if_pos h]
  · rw [if_neg h, hf j (by omega), hg j (by omega)]
/-! what the calls answer -/
def hrSt (k f : zF) (n : Nat) (st : zF × Nat × Nat) : zF × Nat × Nat := (hsS st.1 st.2.1 st.2.2, hsH k st.1 f n st.2.1 st.2.2, st.2.2 - pop st.2.1)
def enI (k f : zF) (n : Nat) : Nat → Nat → zF × Nat × Nat → Int32
  | 0, _, _ => -1
  | r + 1, i, st => if st.2.1 = 0 then nI i else enI k f n r (i + 1) (hrSt k f n st)
def ntSt (k f : zF) (n : Nat) (st : zF × Nat × Nat × Nat) : zF × Nat × Nat × Nat :=
  if sdN st.2.2.2 / 65536 % 3 = 0 then ((if st.2.1.testBit (sdN (sdN st.2.2.2) / 65536 % n) = true then upd st.1 (sdN (sdN st.2.2.2) / 65536 % n) (lsI (st.1 (sdN (sdN st.2.2.2) / 65536 % n))) else st.1), st.2.1, st.2.2.1, sdN (sdN st.2.2.2))
  else ((hrSt k f n (st.1, st.2.1, st.2.2.1)).1, (hrSt k f n (st.1, st.2.1, st.2.2.1)).2.1, (hrSt k f n (st.1, st.2.1, st.2.2.1)).2.2, sdN st.2.2.2)
def itS (F : zF × Nat × Nat × Nat → zF × Nat × Nat × Nat) : Nat → zF × Nat × Nat × Nat → zF × Nat × Nat × Nat
  | 0, x => x
  | r + 1, x => itS F r (F x)
def homI (k s f : zF) (n hr g : Nat) : Int32 := hoR k s f n hr hm1 hr g
def tlI (n : Nat) (k s f : zF) (hr sz : Nat) (sg so se : zF) (g : Nat) (w : Nat) : Int32 := match w with
  | 0 => k g
  | 1 => s g
  | 2 => f g
  | 3 => zb (hr.testBit g)
  | 4 => ndsI (k g) (s g)
  | 5 => ctsI (k g)
  | 6 => nI (shF sg so se (nI g) (k g) sz)
  | 7 => askI (k g) (shF sg so se (nI g) (k g) sz)
  | _ => homI k s f n hr g
def cnI (len n : Nat) (k s f : zF) (hr fd ho sz np : Nat) (w : Nat) : Int32 := match w with
  | 0 => nI n
  | 1 => nI (pop hr)
  | 2 => nI fd
  | 3 => nI ho
  | 4 => shyI s hr
  | 5 => cntI k (gon n hr)
  | 6 => nI (pop (alo k s f n hr))
  | 7 => nI sz
  | 8 => nI len
  | _ => nI np
def hirN (k s f : zF) (n hr : Nat) : Nat := dif hr (wcg k s f n hr hr)
def oddA (k s f : zF) (n hr g tn : Nat) : Int32 := nI (abN k s f n hr g tn (hr + 1) / Nat.gcd (abN k s f n hr g tn (hr + 1)) (10 ^ (pop hr - 1)))
def oddB (k s f : zF) (n hr g tn : Nat) : Int32 := nI (10 ^ (pop hr - 1) / Nat.gcd (abN k s f n hr g tn (hr + 1)) (10 ^ (pop hr - 1)))
def mxL (h : Int64) (v : Int32) : Int64 := 31 * h + v.toInt64
def mxG (n : Nat) (k s f : zF) (hr sz : Nat) (sg so se : zF) (g : Nat) (h0 : Int64) : Nat → Int64
  | 0 => h0
  | w + 1 => mxL (mxG n k s f hr sz sg so se g h0 w) (tlI n k s f hr sz sg so se g w)
def mxA (n : Nat) (k s f : zF) (hr sz : Nat) (sg so se : zF) (h0 : Int64) : Nat → Int64
  | 0 => h0
  | g + 1 => mxG n k s f hr sz sg so se g (mxA n k s f hr sz sg so se h0 g) 9
def mxW (n : Nat) (k s f : zF) (hr fd : Nat) (h0 : Int64) : Int64 := mxL (mxL (mxL (mxL (mxL h0 (nI (mst k s f n hr hr))) (nI (lsF (riB k s f n hr) hr))) (nI (pop (hirN k s f n hr)))) (nI (hirN k s f n hr))) (enI k f n 61 0 (s, hr, fd))
def mxO (n : Nat) (k s f : zF) (hr : Nat) (h0 : Int64) : Nat → Int64
  | 0 => h0
  | g + 1 => if hr.testBit g = true then mxL (mxL (mxO n k s f hr h0 g) (oddA k s f n hr g 4)) (oddB k s f n hr g 4) else mxO n k s f hr h0 g
def mxP (pg : zF) (h0 : Int64) : Nat → Int64
  | 0 => h0
  | p + 1 => mxL (mxP pg h0 p) (pg p)
def mxC (len n : Nat) (k s f : zF) (hr fd ho sz np : Nat) (h0 : Int64) : Nat → Int64
  | 0 => h0
  | w + 1 => mxL (mxC len n k s f hr fd ho sz np h0 w) (cnI len n k s f hr fd ho sz np w)
def a_letter : zS → Int32 → Int32 × zS
  | ((len, pg), G, E, kept, I, np), c => if inR c 32 126 = false then (-102, ((len, pg), G, E, kept, I, np)) else if len = 36 then (-104, ((len, pg), G, E, kept, I, np)) else (nI (len + 1), ((len + 1, upd pg len c), G, E, kept, I, np))
def a_blank : zS → Int32 × zS
  | ((len, pg), G, E, kept, I, np) => (nI len, ((0, pg), G, E, kept, I, np))
def a_fault : zS → Int32 × zS
  | ((len, pg), R) => (nI (ffN pg len), ((len, pg), R))
def a_party : zS → Int32 × zS
  | ((len, pg), (n, k, s, f, hr, fd, ho), (sz, sg, so, se), kept, I, np) => if isP pg len = false then (-103, ((len, pg), (n, k, s, f, hr, fd, ho), (sz, sg, so, se), kept, I, np))
    else (nI ((len - 2) / 4), ((0, pg), ((len - 2) / 4, rdR (pgK pg) k ((len - 2) / 4), rdR (pgS pg) s ((len - 2) / 4), rdR (pgF pg) f ((len - 2) / 4), 2 ^ ((len - 2) / 4) - 1, (pgD pg).toNatClampNeg, 0), (0, sg, so, se), false, I, np + 1))
def gB (n : Nat) (g : Int32) : Bool := decide (0 ≤ g ∧ g < nI n)
def a_guest : zS → Int32 → Int32 → Int32 × zS
  | (P, (n, k, s, f, hr, fd, ho), (sz, sg, so, se), R), g, w => (if gB n g = false then -101 else if inR w 0 8 = false then -102 else tlI n k s f hr sz sg so se g.toNatClampNeg w.toNatClampNeg, (P, (n, k, s, f, hr, fd, ho), (sz, sg, so, se), R))
def a_as : zS → Int32 → Int32 → Int32 × zS
  | (P, (n, k, s, f, hr, fd, ho), R), g, w => (if gB n g = false then -101 else if inR w 0 4 = false then -102 else if suchB (k g.toNatClampNeg) w = true then g else -1, (P, (n, k, s, f, hr, fd, ho), R))
def riseB (n : Nat) (m : Int32) : Bool := decide (0 < m ∧ m < nI (2 ^ n))
def a_rise : zS → Int32 → Int32 × zS
  | (P, (n, k, s, f, hr, fd, ho), R), m => if riseB n m = false then (-101, (P, (n, k, s, f, hr, fd, ho), R)) else if riB k s f n hr m.toNatClampNeg = false then (-103, (P, (n, k, s, f, hr, fd, ho), R)) else (nI (pop m.toNatClampNeg), (P, (n, k, s, f, dif hr m.toNatClampNeg, fd, ho), R))
def a_hour : zS → Int32 × zS
  | (P, (n, k, s, f, hr, fd, ho), R) => if n = 0 then (-103, (P, (n, k, s, f, hr, fd, ho), R)) else if ho = 999 then (-104, (P, (n, k, s, f, hr, fd, ho), R)) else (nI (pop hr - pop (hsH k s f n hr fd)), (P, (n, k, hsS s hr fd, f, hsH k s f n hr fd, fd - pop hr, ho + 1), R))
def a_hint : zS → Int32 → Int32 × zS
  | (P, (n, k, s, f, hr, fd, ho), R), g => if gB n g = false then (-101, (P, (n, k, s, f, hr, fd, ho), R)) else if hr.testBit g.toNatClampNeg = false then (-103, (P, (n, k, s, f, hr, fd, ho), R)) else (lsI (s g.toNatClampNeg), (P, (n, k, upd s g.toNatClampNeg (lsI (s g.toNatClampNeg)), f, hr, fd, ho), R))
def a_back : zS → Int32 → Int32 × zS
  | (P, (n, k, s, f, hr, fd, ho), R), g => if gB n g = false then (-101, (P, (n, k, s, f, hr, fd, ho), R)) else if hr.testBit g.toNatClampNeg = true then (-103, (P, (n, k, s, f, hr, fd, ho), R)) else (nI (pop (hr ||| 2 ^ g.toNatClampNeg)), (P, (n, k, s, f, hr ||| 2 ^ g.toNatClampNeg, fd, ho), R))
def a_feed : zS → Int32 → Int32 × zS
  | (P, (n, k, s, f, hr, fd, ho), R), m => if inR m 1 50 = false then (-102, (P, (n, k, s, f, hr, fd, ho), R)) else if n = 0 then (-103, (P, (n, k, s, f, hr, fd, ho), R)) else if 99 < fd + m.toNatClampNeg then (-104, (P, (n, k, s, f, hr, fd, ho), R)) else (nI (fd + m.toNatClampNeg), (P, (n, k, s, f, hr, fd + m.toNatClampNeg, ho), R))
def a_turn : zS → Int32 → Int32 → Int32 → Int32 × zS
  | (P, (n, k, s, f, hr, fd, ho), R), g, w, y => if gB n g = false then (-101, (P, (n, k, s, f, hr, fd, ho), R)) else if (inR w 0 4 && inR y 0 9) = false then (-102, (P, (n, k, s, f, hr, fd, ho), R)) else (k g.toNatClampNeg, (P, (n, upd k g.toNatClampNeg w, upd s g.toNatClampNeg y, f, hr, fd, ho), R))
def a_most : zS → Int32 × zS
  | (P, (n, k, s, f, hr, fd, ho), R) => (if n = 0 then -103 else nI (mst k s f n hr hr), (P, (n, k, s, f, hr, fd, ho), R))
def a_least : zS → Int32 × zS
  | (P, (n, k, s, f, hr, fd, ho), R) => (if n = 0 then -103 else nI (lsF (riB k s f n hr) hr), (P, (n, k, s, f, hr, fd, ho), R))
def a_hire : zS → Int32 → Int32 × zS
  | (P, (n, k, s, f, hr, fd, ho), R), w => (if inR w 0 1 = false then -102 else if n = 0 then -103 else if w = 0 then nI (pop (hirN k s f n hr)) else nI (hirN k s f n hr), (P, (n, k, s, f, hr, fd, ho), R))
def a_ends : zS → Int32 × zS
  | (P, (n, k, s, f, hr, fd, ho), R) => (if n = 0 then -103 else enI k f n 61 0 (s, hr, fd), (P, (n, k, s, f, hr, fd, ho), R))
def a_odds : zS → Int32 → Int32 → Int32 → Int32 × zS
  | (P, (n, k, s, f, hr, fd, ho), R), g, t, w => (if gB n g = false then -101 else if (inR t 0 10 && inR w 0 1) = false then -102 else if hr.testBit g.toNatClampNeg = false then -103 else if w = 0 then oddA k s f n hr g.toNatClampNeg t.toNatClampNeg else oddB k s f n hr g.toNatClampNeg t.toNatClampNeg, (P, (n, k, s, f, hr, fd, ho), R))
def a_see : zS → Int32 → Int32 → Bool → Int32 × zS
  | (P, (n, k, s, f, hr, fd, ho), (sz, sg, so, se), R), g, t, b => if gB n g = false then (-101, (P, (n, k, s, f, hr, fd, ho), (sz, sg, so, se), R)) else if inR t 0 16 = false then (-102, (P, (n, k, s, f, hr, fd, ho), (sz, sg, so, se), R)) else if sz = 6 then (-104, (P, (n, k, s, f, hr, fd, ho), (sz, sg, so, se), R)) else (nI (sz + 1), (P, (n, k, s, f, hr, fd, ho), (sz + 1, upd sg sz g, upd so sz t, upd se sz (zb b)), R))
def a_forget : zS → Int32 × zS
  | (P, G, (sz, sg, so, se), R) => (nI sz, (P, G, (0, sg, so, se), R))
def ntN (k s f : zF) (n hr fd t sd : Nat) : zF × Nat × Nat × Nat := itS (ntSt k f n) t (s, hr, fd, sd)
def a_nights : zS → Int32 → Int32 → Int32 → Int32 × zS
  | (P, (n, k, s, f, hr, fd, ho), R), t, sd, w => (if (inR t 1 60 && (decide (0 ≤ sd) && inR w 0 2)) = false then -102 else if n = 0 then -103 else if w = 0 then nI (pop (gon n (ntN k s f n hr fd t.toNatClampNeg sd.toNatClampNeg).2.1)) else if w = 1 then nI (ntN k s f n hr fd t.toNatClampNeg sd.toNatClampNeg).2.2.1 else nI (ntN k s f n hr fd t.toNatClampNeg sd.toNatClampNeg).2.2.2, (P, (n, k, s, f, hr, fd, ho), R))
def a_image : zS → Int32 × zS
  | (P, (n, k, s, f, hr, fd, ho), E, kept, I, np) => if n = 0 then (-103, (P, (n, k, s, f, hr, fd, ho), E, kept, I, np)) else (nI ho, (P, (n, k, s, f, hr, fd, ho), E, true, (hr, k, s, fd, ho, E), np))
def a_restore : zS → Int32 × zS
  | (P, (n, k, s, f, hr, fd, ho), E, kept, (ihr, ik, js, ifd, iho, IE), np) => if kept = false then (-103, (P, (n, k, s, f, hr, fd, ho), E, kept, (ihr, ik, js, ifd, iho, IE), np)) else (nI iho, (P, (n, ik, js, f, ihr, ifd, iho), IE, kept, (ihr, ik, js, ifd, iho, IE), np))
def a_count : zS → Int32 → Int32 × zS
  | ((len, pg), (n, k, s, f, hr, fd, ho), (sz, E), kept, I, np), w => (if inR w 0 9 = false then -102 else cnI len n k s f hr fd ho sz np w.toNatClampNeg, ((len, pg), (n, k, s, f, hr, fd, ho), (sz, E), kept, I, np))
def a_digest : zS → Int64 × zS
  | ((len, pg), (n, k, s, f, hr, fd, ho), (sz, sg, so, se), kept, I, np) => (mxC len n k s f hr fd ho sz np (mxP pg (if n = 0 then 1277 else mxO n k s f hr (mxW n k s f hr fd (mxA n k s f hr sz sg so se 1277 n)) n) len) 10, ((len, pg), (n, k, s, f, hr, fd, ho), (sz, sg, so, se), kept, I, np))
