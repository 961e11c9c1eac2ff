theorem kd {h h' : hp} {x : Int32 × zS} {v : Int32} {S' : zS} (e : x = (v, S')) (hD : D h' S') (hf : fr30 h h') : KD h (.int x.1) x.2 (some (.int v)) h' := by
  subst e; exact ⟨rfl, hD, hf⟩
theorem gB_of {n : Nat} {g : Int32} (h : gB n g = true) (hn : n ≤ 8) : ∃ j, j < n ∧ g = nI j := by
  obtain ⟨h1, h2⟩ := of_decide_eq_true h
  have h0 : ¬ g < 0 := fun q => lt_nle q h1
  obtain ⟨j, hj, rfl⟩ := nI_of h0
  exact ⟨j, (nI_ltI hj (by omega)).mp h2, rfl⟩
theorem inR_of {w : Int32} {b : Nat} (hb : b < 2 ^ 31) (h : inR w 0 (nI b) = true) : ∃ j, j ≤ b ∧ w = nI j := by
  obtain ⟨h1, h2⟩ := of_decide_eq_true h
  obtain ⟨j, hj, rfl⟩ := nI_of (fun q => lt_nle q h1)
  exact ⟨j, (nI_leI hj hb).mp h2, rfl⟩
theorem inR_of1 {w : Int32} {b : Nat} (hb : b < 2 ^ 31) (h : inR w 1 (nI b) = true) : ∃ j, 1 ≤ j ∧ j ≤ b ∧ w = nI j := by
  obtain ⟨h1, h2⟩ := of_decide_eq_true h
  have h0 : ¬ w < 0 := fun q => by
    rw [Int32.lt_iff_toInt_lt] at q
    rw [Int32.le_iff_toInt_le] at h1
    have e0 : (0 : Int32).toInt = 0 := rfl
    have e1 : (1 : Int32).toInt = 1 := rfl
    omega
  obtain ⟨j, hj, rfl⟩ := nI_of h0
  exact ⟨j, (nI_leI (a := 1) (by decide) hj).mp h1, (nI_leI hj hb).mp h2, rfl⟩
theorem int_nat (x : Int32) : ∃ N, N < 2 ^ 32 ∧ x = nI N := ⟨x.toBitVec.toNat, x.toBitVec.isLt, Int32.toBitVec_inj.mp (by show _ = BitVec.ofNat 32 _; simp)⟩
theorem nI_0' {N : Nat} (h : N < 2 ^ 32) : nI N = 0 ↔ N = 0 := by
  refine ⟨fun e => ?_, fun e => by rw [e]; rfl⟩
  have h2 := congrArg (fun z : Int32 => z.toBitVec.toNat) e
  simp only [pk_tn h] at h2
  exact h2
theorem nI_big {N : Nat} (h1 : 2 ^ 31 ≤ N) (h2 : N < 2 ^ 32) : nI N < 0 := by
  rw [Int32.lt_iff_toInt_lt]
  show (BitVec.ofNat 32 N).toInt < 0
  rw [BitVec.toInt_eq_toNat_cond, BitVec.toNat_ofNat, Nat.mod_eq_of_lt h2]
  split <;> omega
theorem rise_iff {x : Int32} {n : Nat} (hn : n ≤ 8) (h0 : ¬ x = 0) : x &&& (nI (2 ^ n - 1) ^^^ (-1)) = 0 ↔ riseB n x = true := by
  obtain ⟨N, hN, rfl⟩ := int_nat x
  have hp := p8 hn
  have hpos := Nat.two_pow_pos n
  rw [nb_dif, nI_0' (Nat.lt_of_le_of_lt (dif_le _ _) hN)]
  unfold riseB
  rw [decide_eq_true_eq]
  have hN0 : N ≠ 0 := fun e => h0 (by rw [e]; rfl)
  refine ⟨fun e => ?_, fun ⟨e1, e2⟩ => ?_⟩
  · have hle := ch_le e
    exact ⟨nI_lt (a := 0) (by omega) (by omega), nI_lt (by omega) (by omega)⟩
  · have hlt : N < 2 ^ 31 := by
      rcases Nat.lt_or_ge N (2 ^ 31) with q | q
      · exact q
      · exact absurd e1 (fun w => by
          have := nI_big q hN
          rw [Int32.lt_iff_toInt_lt] at this w
          have e0 : (0 : Int32).toInt = 0 := rfl
          omega)
    have hNn := (nI_ltI hlt (by omega)).mp e2
    exact ch_of (fun i hi => by rw [all_bit]; simp [tb_lt hNn hi])
theorem riseB_of {x : Int32} {n : Nat} (hn : n ≤ 8) (h : riseB n x = true) : ∃ j, 0 < j ∧ j < 2 ^ n ∧ x = nI j := by
  obtain ⟨h1, h2⟩ := of_decide_eq_true h
  have hp := p8 hn
  have h0 : ¬ x < 0 := fun q => by
    rw [Int32.lt_iff_toInt_lt] at q h1
    omega
  obtain ⟨j, hj, rfl⟩ := nI_of h0
  exact ⟨j, (nI_ltI (a := 0) (by decide) hj).mp h1, (nI_ltI hj (by omega)).mp h2, rfl⟩
theorem goN_sub {k s f : zF} {n : Nat} : ∀ (r a i : Nat), (goN k s f n r a).testBit i = true → a.testBit i = true
  | 0, _, _, h => h
  | r + 1, a, i, h => by
    unfold goN at h
    split at h
    · exact h
    · have := goN_sub r _ i h
      rw [dif_bit] at this
      simp only [Bool.and_eq_true] at this
      exact this.1
theorem hsH_pop {k s f : zF} {n hr fd : Nat} : pop (hsH k s f n hr fd) ≤ pop hr := pop_sub (goN_sub 8 hr)
theorem fr_cpX {h0 h : hp} {o p : Nat} (hf : fr30 h0 h) (ho : o + 3 < 30) : fr30 h0 (cpX h o p) := fr_up (fr_up (fr_up (fr_up (fr_row (fr_row (fr_row hf (by omega)) (by omega)) (by omega)) (by omega)) (by omega)) (by omega)) (by omega)
theorem fr_hrX {h0 h : hp} {o fd hr : Nat} {s : zF} (hf : fr30 h0 h) (ho : o + 3 < 30) : fr30 h0 (hrX h o s fd hr) := fr_up (fr_row (fr_up (fr_up hf (by omega)) (by omega)) (by omega)) (by omega)
theorem fr_chX {h0 h : hp} {ot tn A : Nat} (hf : fr30 h0 h) : fr30 h0 (chX h ot tn A) := fr_up (fr_up (fr_row hf (by omega)) (by omega)) (by omega)
theorem fr_rdH {h0 h : hp} {n : Nat} (hf : fr30 h0 h) : fr30 h0 (rdH h n) := fr_row (fr_row (fr_row (fr_up (fr_up (fr_up (fr_up hf (by omega)) (by omega)) (by omega)) (by omega)) (by omega)) (by omega)) (by omega)
/-- a row's place hangs on its own start alone -/
theorem hoR_dep {k s f : zF} {n hr g : Nat} {t t' : zF} (e : t g = t' g) : ∀ i, hoR k s f n hr t i g = hoR k s f n hr t' i g
  | 0 => e
  | i + 1 => by
    have ih := hoR_dep (k := k) (s := s) (f := f) (n := n) (hr := hr) e i
    show (if _ then _ else _ : zF) g = (if _ then _ else _ : zF) g
    split
    · unfold noteR
      split
      · exact ih
      · unfold nfR
        dsimp only
        rw [ih]
    · exact ih
theorem hoT_hom {k s f : zF} {n hr g : Nat} {old : zF} (hg : g < 8) : hoT k s f n hr old g = homI k s f n hr g := hoR_dep (by simp [rdR, hg]) hr
