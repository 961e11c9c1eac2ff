theorem dz_upd {f : zF} {j : Nat} {v : Int32} (h : dZ8 f) (hj : j < 8) : dZ8 (upd f j v) := fun i hi => by rw [upd_ne (by omega)]; exact h i hi
theorem dz6_upd {f : zF} {j : Nat} {v : Int32} (h : dZ6 f) (hj : j < 6) : dZ6 (upd f j v) := fun i hi => by rw [upd_ne (by omega)]; exact h i hi
theorem dz_rd {f g : zF} {m : Nat} (h : dZ8 g) (hm : m ≤ 8) : dZ8 (rdR f g m) := fun i hi => by unfold rdR; rw [if_neg (by omega)]; exact h i hi
theorem Rk_k {n g : Nat} {k s f : zF} {w : Int32} (h : Rk n k s f) (hw : okK w) : Rk n (upd k g w) s f := by
  refine ⟨h.1, fun j hj => ?_, h.2.2⟩
  by_cases e : j = g
  · subst e; rw [upd_at]; exact hw
  · rw [upd_ne e]; exact h.2.1 j hj
theorem ok_4 {w : Int32} (h : inR w 0 4 = true) : okK w := by
  obtain ⟨j, hj, rfl⟩ := inR_of (b := 4) (by decide) h
  rcases (show j = 0 ∨ j = 1 ∨ j = 2 ∨ j = 3 ∨ j = 4 by omega) with rfl | rfl | rfl | rfl | rfl
  · exact Or.inl rfl
  · exact Or.inr (Or.inl rfl)
  · exact Or.inr (Or.inr (Or.inl rfl))
  · exact Or.inr (Or.inr (Or.inr (Or.inl rfl)))
  · exact Or.inr (Or.inr (Or.inr (Or.inr rfl)))
theorem nf_t {b : Bool} (h : ¬ b = false) : b = true := by cases b <;> simp_all
theorem pg_ok {pg k s f : zF} {len : Nat} (h : isP pg len = true) (hl : len ≤ 36) : Rk ((len - 2) / 4) (rdR (pgK pg) k ((len - 2) / 4)) (rdR (pgS pg) s ((len - 2) / 4)) (rdR (pgF pg) f ((len - 2) / 4)) := by
  obtain ⟨i1, i2, i3, i4⟩ := isP_of h
  refine ⟨by omega, fun g hg => ?_, fun g hg => ?_, fun g hg => ?_⟩
  · unfold rdR
    rw [if_pos hg]
    have f0 := ff_all i4 (p := 3 + 4 * g) (by omega)
    rw [show fitB (3 + 4 * g) (pg (3 + 4 * g)) = fitG g 0 (pg (3 + 4 * g)) from fit_g (st := 0) (by omega) (by decide)] at f0
    unfold fitG at f0
    simp only [Bool.and_eq_true, if_true, decide_eq_true_eq] at f0
    exact kof_ok f0.2
  · unfold rdR
    rw [if_pos hg]
    have f0 := ff_all i4 (p := 3 + 4 * g + 1) (by omega)
    rw [fit_g (by omega) (by decide)] at f0
    unfold fitG at f0
    rw [if_neg (by decide), if_pos rfl] at f0
    simp only [Bool.and_eq_true] at f0
    obtain ⟨a, ha, e⟩ := dig_of (b := 10) (by decide) (show digB (pg (3 + 4 * g + 1)) (nI 10) = true from f0.2)
    exact ⟨a, by omega, e⟩
  · unfold rdR
    rw [if_pos hg]
    have f0 := ff_all i4 (p := 3 + 4 * g + 2) (by omega)
    rw [fit_g (by omega) (by decide)] at f0
    unfold fitG at f0
    rw [if_neg (by decide), if_neg (by decide), if_pos rfl] at f0
    simp only [Bool.and_eq_true, Bool.or_eq_true, decide_eq_true_eq] at f0
    unfold pgF
    by_cases q : pg (3 + 4 * g + 2) = 45
    · rw [if_pos q]; exact Or.inl rfl
    · rw [if_neg q]
      obtain ⟨a, ha, e⟩ := dig_of (b := g) (by omega) (f0.2.resolve_left q)
      exact Or.inr ⟨a, ha, e⟩
def npS (S : zS) : Nat := S.2.2.2.2.2
theorem ok_fault {S : zS} (h : OkS S) : OkS (a_fault S).2 := by
  obtain ⟨⟨len, pg⟩, ⟨n, k, s, f, hr, fd, ho⟩, ⟨sz, sg, so, se⟩, kept, ⟨ihr, ik, js, ifd, iho, ⟨isz, isg, iso, ise⟩⟩, np⟩ := S
  obtain ⟨⟨sp1, sp2⟩, ⟨sk, shl, sfd, sho, zk, zs, zf⟩, sE, sI⟩ := id h
  have hn8 := sk.1
  exact h
theorem np_fault {S : zS} : npS (a_fault S).2 ≤ npS S + 1 := by
  obtain ⟨⟨len, pg⟩, ⟨n, k, s, f, hr, fd, ho⟩, ⟨sz, sg, so, se⟩, kept, ⟨ihr, ik, js, ifd, iho, ⟨isz, isg, iso, ise⟩⟩, np⟩ := S
  exact Nat.le_succ _
theorem ok_guest {S : zS} (h : OkS S) (g w : Int32) : OkS (a_guest S g w).2 := by
  obtain ⟨⟨len, pg⟩, ⟨n, k, s, f, hr, fd, ho⟩, ⟨sz, sg, so, se⟩, kept, ⟨ihr, ik, js, ifd, iho, ⟨isz, isg, iso, ise⟩⟩, np⟩ := S
  obtain ⟨⟨sp1, sp2⟩, ⟨sk, shl, sfd, sho, zk, zs, zf⟩, sE, sI⟩ := id h
  have hn8 := sk.1
  exact h
theorem np_guest {S : zS} (g w : Int32) : npS (a_guest S g w).2 ≤ npS S + 1 := by
  obtain ⟨⟨len, pg⟩, ⟨n, k, s, f, hr, fd, ho⟩, ⟨sz, sg, so, se⟩, kept, ⟨ihr, ik, js, ifd, iho, ⟨isz, isg, iso, ise⟩⟩, np⟩ := S
  exact Nat.le_succ _
theorem ok_as {S : zS} (h : OkS S) (g w : Int32) : OkS (a_as S g w).2 := by
  obtain ⟨⟨len, pg⟩, ⟨n, k, s, f, hr, fd, ho⟩, ⟨sz, sg, so, se⟩, kept, ⟨ihr, ik, js, ifd, iho, ⟨isz, isg, iso, ise⟩⟩, np⟩ := S
  obtain ⟨⟨sp1, sp2⟩, ⟨sk, shl, sfd, sho, zk, zs, zf⟩, sE, sI⟩ := id h
  have hn8 := sk.1
  exact h
theorem np_as {S : zS} (g w : Int32) : npS (a_as S g w).2 ≤ npS S + 1 := by
  obtain ⟨⟨len, pg⟩, ⟨n, k, s, f, hr, fd, ho⟩, ⟨sz, sg, so, se⟩, kept, ⟨ihr, ik, js, ifd, iho, ⟨isz, isg, iso, ise⟩⟩, np⟩ := S
  exact Nat.le_succ _
theorem ok_most {S : zS} (h : OkS S) : OkS (a_most S).2 := by
  obtain ⟨⟨len, pg⟩, ⟨n, k, s, f, hr, fd, ho⟩, ⟨sz, sg, so, se⟩, kept, ⟨ihr, ik, js, ifd, iho, ⟨isz, isg, iso, ise⟩⟩, np⟩ := S
  obtain ⟨⟨sp1, sp2⟩, ⟨sk, shl, sfd, sho, zk, zs, zf⟩, sE, sI⟩ := id h
  have hn8 := sk.1
  exact h
theorem np_most {S : zS} : npS (a_most S).2 ≤ npS S + 1 := by
  obtain ⟨⟨len, pg⟩, ⟨n, k, s, f, hr, fd, ho⟩, ⟨sz, sg, so, se⟩, kept, ⟨ihr, ik, js, ifd, iho, ⟨isz, isg, iso, ise⟩⟩, np⟩ := S
  exact Nat.le_succ _
theorem ok_least {S : zS} (h : OkS S) : OkS (a_least S).2 := by
  obtain ⟨⟨len, pg⟩, ⟨n, k, s, f, hr, fd, ho⟩, ⟨sz, sg, so, se⟩, kept, ⟨ihr, ik, js, ifd, iho, ⟨isz, isg, iso, ise⟩⟩, np⟩ := S
  obtain ⟨⟨sp1, sp2⟩, ⟨sk, shl, sfd, sho, zk, zs, zf⟩, sE, sI⟩ := id h
  have hn8 := sk.1
  exact h
theorem np_least {S : zS} : npS (a_least S).2 ≤ npS S + 1 := by
  obtain ⟨⟨len, pg⟩, ⟨n, k, s, f, hr, fd, ho⟩, ⟨sz, sg, so, se⟩, kept, ⟨ihr, ik, js, ifd, iho, ⟨isz, isg, iso, ise⟩⟩, np⟩ := S
  exact Nat.le_succ _
theorem ok_hire {S : zS} (h : OkS S) (w : Int32) : OkS (a_hire S w).2 := by
  obtain ⟨⟨len, pg⟩, ⟨n, k, s, f, hr, fd, ho⟩, ⟨sz, sg, so, se⟩, kept, ⟨ihr, ik, js, ifd, iho, ⟨isz, isg, iso, ise⟩⟩, np⟩ := S
  obtain ⟨⟨sp1, sp2⟩, ⟨sk, shl, sfd, sho, zk, zs, zf⟩, sE, sI⟩ := id h
  have hn8 := sk.1
  exact h
theorem np_hire {S : zS} (w : Int32) : npS (a_hire S w).2 ≤ npS S + 1 := by
  obtain ⟨⟨len, pg⟩, ⟨n, k, s, f, hr, fd, ho⟩, ⟨sz, sg, so, se⟩, kept, ⟨ihr, ik, js, ifd, iho, ⟨isz, isg, iso, ise⟩⟩, np⟩ := S
  exact Nat.le_succ _
theorem ok_ends {S : zS} (h : OkS S) : OkS (a_ends S).2 := by
  obtain ⟨⟨len, pg⟩, ⟨n, k, s, f, hr, fd, ho⟩, ⟨sz, sg, so, se⟩, kept, ⟨ihr, ik, js, ifd, iho, ⟨isz, isg, iso, ise⟩⟩, np⟩ := S
  obtain ⟨⟨sp1, sp2⟩, ⟨sk, shl, sfd, sho, zk, zs, zf⟩, sE, sI⟩ := id h
  have hn8 := sk.1
  exact h
theorem np_ends {S : zS} : npS (a_ends S).2 ≤ npS S + 1 := by
  obtain ⟨⟨len, pg⟩, ⟨n, k, s, f, hr, fd, ho⟩, ⟨sz, sg, so, se⟩, kept, ⟨ihr, ik, js, ifd, iho, ⟨isz, isg, iso, ise⟩⟩, np⟩ := S
  exact Nat.le_succ _
theorem ok_odds {S : zS} (h : OkS S) (g t w : Int32) : OkS (a_odds S g t w).2 := by
  obtain ⟨⟨len, pg⟩, ⟨n, k, s, f, hr, fd, ho⟩, ⟨sz, sg, so, se⟩, kept, ⟨ihr, ik, js, ifd, iho, ⟨isz, isg, iso, ise⟩⟩, np⟩ := S
  obtain ⟨⟨sp1, sp2⟩, ⟨sk, shl, sfd, sho, zk, zs, zf⟩, sE, sI⟩ := id h
  have hn8 := sk.1
  exact h
theorem np_odds {S : zS} (g t w : Int32) : npS (a_odds S g t w).2 ≤ npS S + 1 := by
  obtain ⟨⟨len, pg⟩, ⟨n, k, s, f, hr, fd, ho⟩, ⟨sz, sg, so, se⟩, kept, ⟨ihr, ik, js, ifd, iho, ⟨isz, isg, iso, ise⟩⟩, np⟩ := S
  exact Nat.le_succ _
theorem ok_nights {S : zS} (h : OkS S) (t sd w : Int32) : OkS (a_nights S t sd w).2 := by
  obtain ⟨⟨len, pg⟩, ⟨n, k, s, f, hr, fd, ho⟩, ⟨sz, sg, so, se⟩, kept, ⟨ihr, ik, js, ifd, iho, ⟨isz, isg, iso, ise⟩⟩, np⟩ := S
  obtain ⟨⟨sp1, sp2⟩, ⟨sk, shl, sfd, sho, zk, zs, zf⟩, sE, sI⟩ := id h
  have hn8 := sk.1
  exact h
theorem np_nights {S : zS} (t sd w : Int32) : npS (a_nights S t sd w).2 ≤ npS S + 1 := by
  obtain ⟨⟨len, pg⟩, ⟨n, k, s, f, hr, fd, ho⟩, ⟨sz, sg, so, se⟩, kept, ⟨ihr, ik, js, ifd, iho, ⟨isz, isg, iso, ise⟩⟩, np⟩ := S
  exact Nat.le_succ _
theorem ok_count {S : zS} (h : OkS S) (w : Int32) : OkS (a_count S w).2 := by
  obtain ⟨⟨len, pg⟩, ⟨n, k, s, f, hr, fd, ho⟩, ⟨sz, sg, so, se⟩, kept, ⟨ihr, ik, js, ifd, iho, ⟨isz, isg, iso, ise⟩⟩, np⟩ := S
  obtain ⟨⟨sp1, sp2⟩, ⟨sk, shl, sfd, sho, zk, zs, zf⟩, sE, sI⟩ := id h
  have hn8 := sk.1
  exact h
theorem np_count {S : zS} (w : Int32) : npS (a_count S w).2 ≤ npS S + 1 := by
  obtain ⟨⟨len, pg⟩, ⟨n, k, s, f, hr, fd, ho⟩, ⟨sz, sg, so, se⟩, kept, ⟨ihr, ik, js, ifd, iho, ⟨isz, isg, iso, ise⟩⟩, np⟩ := S
  exact Nat.le_succ _
theorem ok_digest {S : zS} (h : OkS S) : OkS (a_digest S).2 := by
  obtain ⟨⟨len, pg⟩, ⟨n, k, s, f, hr, fd, ho⟩, ⟨sz, sg, so, se⟩, kept, ⟨ihr, ik, js, ifd, iho, ⟨isz, isg, iso, ise⟩⟩, np⟩ := S
  obtain ⟨⟨sp1, sp2⟩, ⟨sk, shl, sfd, sho, zk, zs, zf⟩, sE, sI⟩ := id h
  have hn8 := sk.1
  exact h
theorem np_digest {S : zS} : npS (a_digest S).2 ≤ npS S + 1 := by
  obtain ⟨⟨len, pg⟩, ⟨n, k, s, f, hr, fd, ho⟩, ⟨sz, sg, so, se⟩, kept, ⟨ihr, ik, js, ifd, iho, ⟨isz, isg, iso, ise⟩⟩, np⟩ := S
  exact Nat.le_succ _
theorem ok_letter {S : zS} (h : OkS S) (c : Int32) : OkS (a_letter S c).2 := by
  obtain ⟨⟨len, pg⟩, ⟨n, k, s, f, hr, fd, ho⟩, ⟨sz, sg, so, se⟩, kept, ⟨ihr, ik, js, ifd, iho, ⟨isz, isg, iso, ise⟩⟩, np⟩ := S
  obtain ⟨⟨sp1, sp2⟩, ⟨sk, shl, sfd, sho, zk, zs, zf⟩, sE, sI⟩ := id h
  have hn8 := sk.1
  simp only [a_letter]
  split
  · exact h
  · rename_i q
    split
    · exact h
    · rename_i q2
      obtain ⟨c1, c2⟩ := of_decide_eq_true (show decide (32 ≤ c ∧ c ≤ 126) = true from nf_t q)
      refine ⟨⟨by omega, fun p hp => ?_⟩, ⟨sk, shl, sfd, sho, zk, zs, zf⟩, sE, sI⟩
      by_cases e : p = len
      · subst e; rw [upd_at]; exact ⟨c1, c2⟩
      · rw [upd_ne e]; exact sp2 p (by omega)
theorem np_letter {S : zS} (c : Int32) : npS (a_letter S c).2 ≤ npS S + 1 := by
  obtain ⟨⟨len, pg⟩, ⟨n, k, s, f, hr, fd, ho⟩, ⟨sz, sg, so, se⟩, kept, ⟨ihr, ik, js, ifd, iho, ⟨isz, isg, iso, ise⟩⟩, np⟩ := S
  simp only [a_letter, npS]
  repeat' split
  all_goals first | exact Nat.le_succ _ | exact Nat.le_refl _
theorem ok_blank {S : zS} (h : OkS S) : OkS (a_blank S).2 := by
  obtain ⟨⟨len, pg⟩, ⟨n, k, s, f, hr, fd, ho⟩, ⟨sz, sg, so, se⟩, kept, ⟨ihr, ik, js, ifd, iho, ⟨isz, isg, iso, ise⟩⟩, np⟩ := S
  obtain ⟨⟨sp1, sp2⟩, ⟨sk, shl, sfd, sho, zk, zs, zf⟩, sE, sI⟩ := id h
  have hn8 := sk.1
  exact ⟨⟨Nat.zero_le _, fun p hp => absurd hp (Nat.not_lt_zero p)⟩, ⟨sk, shl, sfd, sho, zk, zs, zf⟩, sE, sI⟩
theorem np_blank {S : zS} : npS (a_blank S).2 ≤ npS S + 1 := by
  obtain ⟨⟨len, pg⟩, ⟨n, k, s, f, hr, fd, ho⟩, ⟨sz, sg, so, se⟩, kept, ⟨ihr, ik, js, ifd, iho, ⟨isz, isg, iso, ise⟩⟩, np⟩ := S
  exact Nat.le_succ _
theorem ok_party {S : zS} (h : OkS S) : OkS (a_party S).2 := by
  obtain ⟨⟨len, pg⟩, ⟨n, k, s, f, hr, fd, ho⟩, ⟨sz, sg, so, se⟩, kept, ⟨ihr, ik, js, ifd, iho, ⟨isz, isg, iso, ise⟩⟩, np⟩ := S
  obtain ⟨⟨sp1, sp2⟩, ⟨sk, shl, sfd, sho, zk, zs, zf⟩, sE, sI⟩ := id h
  have hn8 := sk.1
  simp only [a_party]
  split
  · exact h
  · rename_i q
    have q := nf_t q
    obtain ⟨i1, i2, i3, i4⟩ := isP_of q
    obtain ⟨a, ha, ea⟩ := pgD_ok q
    refine ⟨⟨Nat.zero_le _, fun p hp => absurd hp (Nat.not_lt_zero p)⟩, ⟨pg_ok q sp1, ?_, ?_, Nat.zero_le _, dz_rd zk (by omega), dz_rd zs (by omega), dz_rd zf (by omega)⟩, ⟨Nat.zero_le _, sE.2⟩, fun z => absurd z (by decide)⟩
    · have := Nat.two_pow_pos ((len - 2) / 4); omega
    · rw [ea, nI_clamp (by omega)]; exact ha
theorem np_party {S : zS} : npS (a_party S).2 ≤ npS S + 1 := by
  obtain ⟨⟨len, pg⟩, ⟨n, k, s, f, hr, fd, ho⟩, ⟨sz, sg, so, se⟩, kept, ⟨ihr, ik, js, ifd, iho, ⟨isz, isg, iso, ise⟩⟩, np⟩ := S
  simp only [a_party, npS]
  repeat' split
  all_goals first | exact Nat.le_succ _ | exact Nat.le_refl _
theorem ok_rise {S : zS} (h : OkS S) (x : Int32) : OkS (a_rise S x).2 := by
  obtain ⟨⟨len, pg⟩, ⟨n, k, s, f, hr, fd, ho⟩, ⟨sz, sg, so, se⟩, kept, ⟨ihr, ik, js, ifd, iho, ⟨isz, isg, iso, ise⟩⟩, np⟩ := S
  obtain ⟨⟨sp1, sp2⟩, ⟨sk, shl, sfd, sho, zk, zs, zf⟩, sE, sI⟩ := id h
  have hn8 := sk.1
  simp only [a_rise]
  split
  · exact h
  · split
    · exact h
    · exact ⟨⟨sp1, sp2⟩, ⟨sk, dif_lt shl, sfd, sho, zk, zs, zf⟩, sE, sI⟩
theorem np_rise {S : zS} (x : Int32) : npS (a_rise S x).2 ≤ npS S + 1 := by
  obtain ⟨⟨len, pg⟩, ⟨n, k, s, f, hr, fd, ho⟩, ⟨sz, sg, so, se⟩, kept, ⟨ihr, ik, js, ifd, iho, ⟨isz, isg, iso, ise⟩⟩, np⟩ := S
  simp only [a_rise, npS]
  repeat' split
  all_goals first | exact Nat.le_succ _ | exact Nat.le_refl _
theorem ok_hour {S : zS} (h : OkS S) : OkS (a_hour S).2 := by
  obtain ⟨⟨len, pg⟩, ⟨n, k, s, f, hr, fd, ho⟩, ⟨sz, sg, so, se⟩, kept, ⟨ihr, ik, js, ifd, iho, ⟨isz, isg, iso, ise⟩⟩, np⟩ := S
  obtain ⟨⟨sp1, sp2⟩, ⟨sk, shl, sfd, sho, zk, zs, zf⟩, sE, sI⟩ := id h
  have hn8 := sk.1
  simp only [a_hour]
  have hp8 := p8 hn8
  split
  · exact h
  · split
    · exact h
    · exact ⟨⟨sp1, sp2⟩, ⟨Rk_hs sk _ _, hsH_lt shl, by omega, by omega, zk, dZ8_hs zs (by omega), zf⟩, sE, sI⟩
theorem np_hour {S : zS} : npS (a_hour S).2 ≤ npS S + 1 := by
  obtain ⟨⟨len, pg⟩, ⟨n, k, s, f, hr, fd, ho⟩, ⟨sz, sg, so, se⟩, kept, ⟨ihr, ik, js, ifd, iho, ⟨isz, isg, iso, ise⟩⟩, np⟩ := S
  simp only [a_hour, npS]
  repeat' split
  all_goals first | exact Nat.le_succ _ | exact Nat.le_refl _
theorem ok_hint {S : zS} (h : OkS S) (g : Int32) : OkS (a_hint S g).2 := by
  obtain ⟨⟨len, pg⟩, ⟨n, k, s, f, hr, fd, ho⟩, ⟨sz, sg, so, se⟩, kept, ⟨ihr, ik, js, ifd, iho, ⟨isz, isg, iso, ise⟩⟩, np⟩ := S
  obtain ⟨⟨sp1, sp2⟩, ⟨sk, shl, sfd, sho, zk, zs, zf⟩, sE, sI⟩ := id h
  have hn8 := sk.1
  simp only [a_hint]
  split
  · exact h
  · rename_i q
    split
    · exact h
    · obtain ⟨j, hj, rfl⟩ := gB_of (nf_t q) hn8
      have ej : (nI j).toNatClampNeg = j := nI_clamp (by omega)
      rw [ej]
      obtain ⟨a, ha, e⟩ := lsI_ok sk hj
      exact ⟨⟨sp1, sp2⟩, ⟨by rw [e]; exact Rk_upd sk ha, shl, sfd, sho, zk, dz_upd zs (by omega), zf⟩, sE, sI⟩
theorem np_hint {S : zS} (g : Int32) : npS (a_hint S g).2 ≤ npS S + 1 := by
  obtain ⟨⟨len, pg⟩, ⟨n, k, s, f, hr, fd, ho⟩, ⟨sz, sg, so, se⟩, kept, ⟨ihr, ik, js, ifd, iho, ⟨isz, isg, iso, ise⟩⟩, np⟩ := S
  simp only [a_hint, npS]
  repeat' split
  all_goals first | exact Nat.le_succ _ | exact Nat.le_refl _
theorem ok_back {S : zS} (h : OkS S) (g : Int32) : OkS (a_back S g).2 := by
  obtain ⟨⟨len, pg⟩, ⟨n, k, s, f, hr, fd, ho⟩, ⟨sz, sg, so, se⟩, kept, ⟨ihr, ik, js, ifd, iho, ⟨isz, isg, iso, ise⟩⟩, np⟩ := S
  obtain ⟨⟨sp1, sp2⟩, ⟨sk, shl, sfd, sho, zk, zs, zf⟩, sE, sI⟩ := id h
  have hn8 := sk.1
  simp only [a_back]
  split
  · exact h
  · rename_i q
    split
    · exact h
    · obtain ⟨j, hj, rfl⟩ := gB_of (nf_t q) hn8
      have ej : (nI j).toNatClampNeg = j := nI_clamp (by omega)
      rw [ej]
      exact ⟨⟨sp1, sp2⟩, ⟨sk, or_lt shl (Nat.pow_lt_pow_right (by decide) hj), sfd, sho, zk, zs, zf⟩, sE, sI⟩
theorem np_back {S : zS} (g : Int32) : npS (a_back S g).2 ≤ npS S + 1 := by
  obtain ⟨⟨len, pg⟩, ⟨n, k, s, f, hr, fd, ho⟩, ⟨sz, sg, so, se⟩, kept, ⟨ihr, ik, js, ifd, iho, ⟨isz, isg, iso, ise⟩⟩, np⟩ := S
  simp only [a_back, npS]
  repeat' split
  all_goals first | exact Nat.le_succ _ | exact Nat.le_refl _
theorem ok_feed {S : zS} (h : OkS S) (m : Int32) : OkS (a_feed S m).2 := by
  obtain ⟨⟨len, pg⟩, ⟨n, k, s, f, hr, fd, ho⟩, ⟨sz, sg, so, se⟩, kept, ⟨ihr, ik, js, ifd, iho, ⟨isz, isg, iso, ise⟩⟩, np⟩ := S
  obtain ⟨⟨sp1, sp2⟩, ⟨sk, shl, sfd, sho, zk, zs, zf⟩, sE, sI⟩ := id h
  have hn8 := sk.1
  simp only [a_feed]
  split
  · exact h
  · split
    · exact h
    · split
      · exact h
      · exact ⟨⟨sp1, sp2⟩, ⟨sk, shl, by omega, sho, zk, zs, zf⟩, sE, sI⟩
theorem np_feed {S : zS} (m : Int32) : npS (a_feed S m).2 ≤ npS S + 1 := by
  obtain ⟨⟨len, pg⟩, ⟨n, k, s, f, hr, fd, ho⟩, ⟨sz, sg, so, se⟩, kept, ⟨ihr, ik, js, ifd, iho, ⟨isz, isg, iso, ise⟩⟩, np⟩ := S
  simp only [a_feed, npS]
  repeat' split
  all_goals first | exact Nat.le_succ _ | exact Nat.le_refl _
theorem ok_turn {S : zS} (h : OkS S) (g w y : Int32) : OkS (a_turn S g w y).2 := by
  obtain ⟨⟨len, pg⟩, ⟨n, k, s, f, hr, fd, ho⟩, ⟨sz, sg, so, se⟩, kept, ⟨ihr, ik, js, ifd, iho, ⟨isz, isg, iso, ise⟩⟩, np⟩ := S
  obtain ⟨⟨sp1, sp2⟩, ⟨sk, shl, sfd, sho, zk, zs, zf⟩, sE, sI⟩ := id h
  have hn8 := sk.1
  simp only [a_turn]
  split
  · exact h
  · rename_i q
    split
    · exact h
    · rename_i q2
      have q2 := nf_t q2
      rw [Bool.and_eq_true] at q2
      obtain ⟨j, hj, rfl⟩ := gB_of (nf_t q) hn8
      have ej : (nI j).toNatClampNeg = j := nI_clamp (by omega)
      rw [ej]
      obtain ⟨a, ha, rfl⟩ := inR_of (b := 9) (by decide) q2.2
      exact ⟨⟨sp1, sp2⟩, ⟨Rk_upd (Rk_k sk (ok_4 q2.1)) ha, shl, sfd, sho, dz_upd zk (by omega), dz_upd zs (by omega), zf⟩, sE, sI⟩
theorem np_turn {S : zS} (g w y : Int32) : npS (a_turn S g w y).2 ≤ npS S + 1 := by
  obtain ⟨⟨len, pg⟩, ⟨n, k, s, f, hr, fd, ho⟩, ⟨sz, sg, so, se⟩, kept, ⟨ihr, ik, js, ifd, iho, ⟨isz, isg, iso, ise⟩⟩, np⟩ := S
  simp only [a_turn, npS]
  repeat' split
  all_goals first | exact Nat.le_succ _ | exact Nat.le_refl _
theorem ok_see {S : zS} (h : OkS S) (g t : Int32) (b : Bool) : OkS (a_see S g t b).2 := by
  obtain ⟨⟨len, pg⟩, ⟨n, k, s, f, hr, fd, ho⟩, ⟨sz, sg, so, se⟩, kept, ⟨ihr, ik, js, ifd, iho, ⟨isz, isg, iso, ise⟩⟩, np⟩ := S
  obtain ⟨⟨sp1, sp2⟩, ⟨sk, shl, sfd, sho, zk, zs, zf⟩, sE, sI⟩ := id h
  have hn8 := sk.1
  simp only [a_see]
  obtain ⟨e1, e2, e3, e4, e5⟩ := id sE
  split
  · exact h
  · split
    · exact h
    · split
      · exact h
      · refine ⟨⟨sp1, sp2⟩, ⟨sk, shl, sfd, sho, zk, zs, zf⟩, ⟨by omega, dz6_upd e2 (by omega), dz6_upd e3 (by omega), dz6_upd e4 (by omega), fun i => ?_⟩, sI⟩
        by_cases e : i = sz
        · subst e; rw [upd_at]; cases b
          · exact Or.inl rfl
          · exact Or.inr rfl
        · rw [upd_ne e]; exact e5 i
theorem np_see {S : zS} (g t : Int32) (b : Bool) : npS (a_see S g t b).2 ≤ npS S + 1 := by
  obtain ⟨⟨len, pg⟩, ⟨n, k, s, f, hr, fd, ho⟩, ⟨sz, sg, so, se⟩, kept, ⟨ihr, ik, js, ifd, iho, ⟨isz, isg, iso, ise⟩⟩, np⟩ := S
  simp only [a_see, npS]
  repeat' split
  all_goals first | exact Nat.le_succ _ | exact Nat.le_refl _
theorem ok_forget {S : zS} (h : OkS S) : OkS (a_forget S).2 := by
  obtain ⟨⟨len, pg⟩, ⟨n, k, s, f, hr, fd, ho⟩, ⟨sz, sg, so, se⟩, kept, ⟨ihr, ik, js, ifd, iho, ⟨isz, isg, iso, ise⟩⟩, np⟩ := S
  obtain ⟨⟨sp1, sp2⟩, ⟨sk, shl, sfd, sho, zk, zs, zf⟩, sE, sI⟩ := id h
  have hn8 := sk.1
  exact ⟨⟨sp1, sp2⟩, ⟨sk, shl, sfd, sho, zk, zs, zf⟩, ⟨Nat.zero_le _, sE.2⟩, sI⟩
theorem np_forget {S : zS} : npS (a_forget S).2 ≤ npS S + 1 := by
  obtain ⟨⟨len, pg⟩, ⟨n, k, s, f, hr, fd, ho⟩, ⟨sz, sg, so, se⟩, kept, ⟨ihr, ik, js, ifd, iho, ⟨isz, isg, iso, ise⟩⟩, np⟩ := S
  exact Nat.le_succ _
theorem ok_image {S : zS} (h : OkS S) : OkS (a_image S).2 := by
  obtain ⟨⟨len, pg⟩, ⟨n, k, s, f, hr, fd, ho⟩, ⟨sz, sg, so, se⟩, kept, ⟨ihr, ik, js, ifd, iho, ⟨isz, isg, iso, ise⟩⟩, np⟩ := S
  obtain ⟨⟨sp1, sp2⟩, ⟨sk, shl, sfd, sho, zk, zs, zf⟩, sE, sI⟩ := id h
  have hn8 := sk.1
  simp only [a_image]
  split
  · exact h
  · exact ⟨⟨sp1, sp2⟩, ⟨sk, shl, sfd, sho, zk, zs, zf⟩, sE, fun _ => ⟨sk, shl, sfd, sho, zk, zs, sE⟩⟩
theorem np_image {S : zS} : npS (a_image S).2 ≤ npS S + 1 := by
  obtain ⟨⟨len, pg⟩, ⟨n, k, s, f, hr, fd, ho⟩, ⟨sz, sg, so, se⟩, kept, ⟨ihr, ik, js, ifd, iho, ⟨isz, isg, iso, ise⟩⟩, np⟩ := S
  simp only [a_image, npS]
  repeat' split
  all_goals first | exact Nat.le_succ _ | exact Nat.le_refl _
theorem ok_restore {S : zS} (h : OkS S) : OkS (a_restore S).2 := by
  obtain ⟨⟨len, pg⟩, ⟨n, k, s, f, hr, fd, ho⟩, ⟨sz, sg, so, se⟩, kept, ⟨ihr, ik, js, ifd, iho, ⟨isz, isg, iso, ise⟩⟩, np⟩ := S
  obtain ⟨⟨sp1, sp2⟩, ⟨sk, shl, sfd, sho, zk, zs, zf⟩, sE, sI⟩ := id h
  have hn8 := sk.1
  simp only [a_restore]
  split
  · exact h
  · rename_i q
    obtain ⟨tk, til, tfd, tho, wk, wj, tE⟩ := sI (nf_t q)
    exact ⟨⟨sp1, sp2⟩, ⟨tk, til, tfd, tho, wk, wj, zf⟩, tE, sI⟩
theorem np_restore {S : zS} : npS (a_restore S).2 ≤ npS S + 1 := by
  obtain ⟨⟨len, pg⟩, ⟨n, k, s, f, hr, fd, ho⟩, ⟨sz, sg, so, se⟩, kept, ⟨ihr, ik, js, ifd, iho, ⟨isz, isg, iso, ise⟩⟩, np⟩ := S
  simp only [a_restore, npS]
  repeat' split
  all_goals first | exact Nat.le_succ _ | exact Nat.le_refl _
