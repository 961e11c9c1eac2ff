theorem Rm_OD {h hh : hp} {n hr : Nat} {k s f : zF} (hR : Rm h 3 n hr k s f) (hO : OD h hh) : Rm hh 3 n hr k s f := by
  obtain ⟨g1, g2, g3, g4, g5, g6, g7⟩ := hR
  exact ⟨by rw [hO.1 3 (by decide)]; exact g1, by rw [hO.1 3 (by decide)]; exact g2, g3, g4, by rw [hO.1 (3 + 1) (by decide)]; exact g5, by rw [hO.1 (3 + 2) (by decide)]; exact g6, by rw [hO.1 (3 + 3) (by decide)]; exact g7⟩
theorem OD_D {h hh : hp} {S : zS} (hD : D h S) (hO : OD h hh) : D hh S ∧ fr30 h hh := by
  obtain ⟨⟨len, pg⟩, ⟨n, k, s, f, hr, fd, ho⟩, ⟨sz, sg, so, se⟩, kept, ⟨ihr, ik, js, ifd, iho, ⟨isz, isg, iso, ise⟩⟩, np⟩ := S
  obtain ⟨hP, hG, hE, hK, hI, hX⟩ := hD
  have e : ∀ r, r < 25 → hh.1 r = h.1 r := fun r hr => hO.1 r (by omega)
  refine ⟨⟨hP.mv (e 1 (by decide)) (e 2 (by decide)), hG.mv (e 3 (by decide)) (e 4 (by decide)) (e 5 (by decide)) (e 6 (by decide)), hE.mv (e 7 (by decide)) (e 8 (by decide)) (e 9 (by decide)) (e 10 (by decide)), hK.mv (e 0 (by decide)),
    hI.mv (e 11 (by decide)) (e 12 (by decide)) (e 13 (by decide)) (e 14 (by decide)) (e 15 (by decide)) (e 16 (by decide)) (e 17 (by decide)) (e 18 (by decide)),
    hX.mv (by rw [e 24 (by decide)]; exact hX.1) (e 12 (by decide)) (e 13 (by decide)) (e 14 (by decide)) (e 16 (by decide)) (e 17 (by decide)) (e 18 (by decide)) (by rw [e 20 (by decide)]; exact hX.2.2.2.2.1) (by rw [e 21 (by decide)]; exact hX.2.2.2.2.2.1) (by rw [e 22 (by decide)]; exact hX.2.2.2.2.2.2.1)⟩, fun i hi => ⟨hO.1 i (by omega), by rw [hO.2]⟩⟩
theorem mxO_t {n : Nat} {k s f : zF} {hr g : Nat} {h0 : Int64} (h : hr.testBit g = true) : mxL (mxL (mxO n k s f hr h0 g) (oddA k s f n hr g 4)) (oddB k s f n hr g 4) = mxO n k s f hr h0 (g + 1) := by
  show _ = (if _ then _ else _)
  rw [if_pos h]
theorem mxO_f {n : Nat} {k s f : zF} {hr g : Nat} {h0 : Int64} (h : hr.testBit g = false) : mxO n k s f hr h0 (g + 1) = mxO n k s f hr h0 g := by
  show (if _ then _ else _) = _
  rw [if_neg (by rw [h]; decide)]
