/-! THE CLAIM OUT OF ONE WALK OF THE LAW'S BODY. Your part is whole_start (and what it stands on); all else here is the same for every law, but numbers. -/
def R_law : String := "GrangePartyLaw"
def lw_P (b : Addr) (xs : List Int32) (args : Array Value) (s : State) : Prop := args = #[.ref b] ∧ s.IntsAt b xs ∧ xs.length ≤ 2048 ∧ (Jvm.Cond.and given_1 narrow_1).before args s = true
def lw_Q (_ : Array Value) (s : State) (o : Outcome) (t : State) : Prop := o = .returned (some (.int 1)) ∧ Framed s o t [] 44 618
def lw_Z (below : List Frame) (a : Array Value) (s : State) : State → Prop := fun t => ∃ o, t.status = .running ∧ Ended t below o ∧ lw_Q a s o t
/-- the law's own end, with 1 on the stack, nothing written that was there before, its room as the claim has it -/
theorem lw_ret {p : Program} {l : Launch} {e : Env} {s : State} {m : MethodId} {below : List Frame} {meth : Method} {c : Code} {b : Nat} (hx : p.tables.exec = Jvm.exec) (hb : c.code = code) (hr : meth.sig.returnType = ret) (hlocks : meth.locks = false) {pc : Nat} {H : Heap} {ls : Array Slot} (hdg : decode code pc = .ok (.ireturn, 1)) : W p l e room_1 s m #[Value.ref b] below meth c H [] 44 618 (lw_Z below #[Value.ref b] s) (F0 m pc ls [.int 1]) := by
  intro T hT X
  obtain ⟨fs, hret, hrun, hended, hW, hframe⟩ := X.leave (v := some (.int 1)) (hlocks := hlocks) (fun h => by rw [hr] at h; cases h)
  have hmeth' : T.vm.method? m = some meth := X.method'
  refine ⟨T.setFrames fs, ?_, .returned (some (.int 1)), hrun, hended, rfl, ⟨_, rfl⟩, hW, hframe⟩
  jvm_step X.here [X.here.top, hx, hb, hdg, hmeth', hr, ret, narrow_b1]
  (try refine ⟨rfl, ?_⟩); (try refine ⟨rfl, ?_⟩)
  first | (intro acts; rw [hret _ acts rfl rfl rfl]) | rw [hret _ _ rfl rfl rfl]
  exact Steps.refl _
/-- what holds at the law's entry: the machine, the code, the tables' words (any of lw_tbl by 'hts w (by decide +kernel)'), the script of L ints xs at the cell b, what the Statement gives of the start (any of its parts by flat_of_before) -/
def lw_At (p : Program) (s : State) (m : MethodId) (meth : Method) (c : Code) (b L : Nat) (xs : Nat → Int32) : Prop :=
  p.tables.exec = Jvm.exec ∧ c.code = code ∧ meth.sig.returnType = ret ∧ c.maxLocals = 4 ∧ s.vm.findClass R_law = some m.cls ∧ (∀ w ∈ lw_tbl, w.before #[Value.ref b] s = true) ∧ va_X b L xs s s.heap ∧ b < s.heap.size ∧ meth.locks = false ∧ (Jvm.Cond.and given_1 narrow_1).before #[Value.ref b] s = true
/-! THE LAW'S OWN FRAME. Y: as Z, of the law: cell 200 is the script (L ints xs); locals 0 script, 1 GrangeParty, 2 the reference, 3 the place -/
abbrev lA (s : State) : Nat → Prop := fun q => s.heap.size ≤ q
def LC (p : Program) (s : State) (m : MethodId) (meth : Method) (c : Code) (b L : Nat) (xs : Nat → Int32) (G : va_G) (ad : Nat → Nat) (cA : Nat → ClassId) : Prop :=
  p.tables.exec = Jvm.exec ∧ c.code = cL_law ∧ meth.sig.returnType = ret ∧ c.maxLocals = 4 ∧ s.vm.findClass RL = some m.cls ∧ (∀ w ∈ z_tb, w.before #[Value.ref b] s = true) ∧ va_X b L xs s s.heap ∧ b < s.heap.size ∧ meth.locks = false ∧ va_K G vwCl (z_t cA) s ∧ z_X ad (lA s) s s.heap ∧ ad 200 = b
def Y (L : Nat) (xs : Nat → Int32) (pc : Nat) (lv : List (Nat × Value)) (st : List Value) (h : hp) : Prop :=
  ∀ (p : Program) (l : Launch) (e : Env) (s : State) (m : MethodId) (below : List Frame) (meth : Method) (c : Code) (b : Nat) (G : va_G) (ad : Nat → Nat) (cA : Nat → ClassId) (H : Heap) (locs : List Loc) (ls : Array Slot),
    LC p s m meth c b L xs G ad cA → va_P G vwCl (z_w ad cA h) H → va_D (lA s) (z_w ad cA h) → va_S (lA s) s.heap H locs → lv_has ls 4 (z_l ad lv) →
    W p l e room_1 s m #[Value.ref b] below meth c H locs 44 618 (lw_Z below #[Value.ref b] s) (F0 m pc ls (st.map (z_v ad)))
section YR
variable {L : Nat} {xs : Nat → Int32} {pc : Nat} {lv : List (Nat × Value)} {st : List Value} {h : hp}
theorem Y.top {x x' : Int32} (e : x = x') (k : Y L xs pc lv (.int x' :: st) h) : Y L xs pc lv (.int x :: st) h := e ▸ k
theorem Y.iconst {n : Int} {v : Int32} (hd : decode cL_law pc = .ok (.iconst n, 1)) (hv : Int32.ofInt n = v) (k : Y L xs (pc + 1) lv (.int v :: st) h) : Y L xs pc lv st h := by
  intro p l e s m below meth c b G ad cA H locs ls cx hP hD hS hl
  exact lv_iconst cx.1 cx.2.1 hd hv (k p l e s m below meth c b G ad cA H locs ls cx hP hD hS hl)
theorem Y.bipush {n : Int} {v : Int32} (hd : decode cL_law pc = .ok (.bipush n, 2)) (hv : (Int8.ofInt n).toInt32 = v) (k : Y L xs (pc + 2) lv (.int v :: st) h) : Y L xs pc lv st h := by
  intro p l e s m below meth c b G ad cA H locs ls cx hP hD hS hl
  exact lv_bipush cx.1 cx.2.1 hd hv (k p l e s m below meth c b G ad cA H locs ls cx hP hD hS hl)
theorem Y.iload_n {n : Fin 4} {i : Nat} {x : Int32} (hd : decode cL_law pc = .ok (.iload_n n, 1)) (hi : (n : Nat) = i) (hg : z_get lv i = some (.int x)) (k : Y L xs (pc + 1) lv (.int x :: st) h) : Y L xs pc lv st h := by
  intro p l e s m below meth c b G ad cA H locs ls cx hP hD hS hl
  exact lv_iload_n cx.1 cx.2.1 hd hi (z_at hl hg) (k p l e s m below meth c b G ad cA H locs ls cx hP hD hS hl)
theorem Y.aload_n {n : Fin 4} {i : Nat} {x : Nat} (hd : decode cL_law pc = .ok (.aload_n n, 1)) (hi : (n : Nat) = i) (hg : z_get lv i = some (.ref x)) (k : Y L xs (pc + 1) lv (.ref x :: st) h) : Y L xs pc lv st h := by
  intro p l e s m below meth c b G ad cA H locs ls cx hP hD hS hl
  exact lv_aload_n cx.1 cx.2.1 hd hi (z_at hl hg) (k p l e s m below meth c b G ad cA H locs ls cx hP hD hS hl)
theorem Y.iinc {i : Nat} {n : Int} {x v : Int32} (hd : decode cL_law pc = .ok (.iinc i n, 3)) (hg : z_get lv i = some (.int x)) (hv : x + Int32.ofInt n = v) (hn : i < 4) (ho : z_ok lv i (.int v) = true) (k : Y L xs (pc + 3) (z_set lv i (.int v)) st h) : Y L xs pc lv st h := by
  intro p l e s m below meth c b G ad cA H locs ls cx hP hD hS hl
  obtain ⟨j, hj⟩ := List.getElem?_of_mem (List.mem_map.mpr ⟨(i, .int x), z_get_mem hg, rfl⟩ : (i, z_v ad (.int x)) ∈ z_l ad lv)
  exact lv_iinc cx.1 cx.2.1 hd hl hj hv hn rfl (fun ls hl => k p l e s m below meth c b G ad cA H locs ls cx hP hD hS (z_st1 ho hl))
theorem Y.iadd {a b : Int32} (hd : decode cL_law pc = .ok (.iadd, 1)) (k : Y L xs (pc + 1) lv (.int (a + b) :: st) h) : Y L xs pc lv (.int b :: .int a :: st) h := by
  intro p l e s m below meth c b G ad cA H locs ls cx hP hD hS hl
  exact lv_iadd cx.1 cx.2.1 hd (k p l e s m below meth c b G ad cA H locs ls cx hP hD hS hl)
theorem Y.isub {a b : Int32} (hd : decode cL_law pc = .ok (.isub, 1)) (k : Y L xs (pc + 1) lv (.int (a - b) :: st) h) : Y L xs pc lv (.int b :: .int a :: st) h := by
  intro p l e s m below meth c b G ad cA H locs ls cx hP hD hS hl
  exact lv_isub cx.1 cx.2.1 hd (k p l e s m below meth c b G ad cA H locs ls cx hP hD hS hl)
theorem Y.iand {a b : Int32} (hd : decode cL_law pc = .ok (.iand, 1)) (k : Y L xs (pc + 1) lv (.int (a &&& b) :: st) h) : Y L xs pc lv (.int b :: .int a :: st) h := by
  intro p l e s m below meth c b G ad cA H locs ls cx hP hD hS hl
  exact lv_iand cx.1 cx.2.1 hd (k p l e s m below meth c b G ad cA H locs ls cx hP hD hS hl)
theorem Y.goto {off : Int} {tgt : Nat} (hd : decode cL_law pc = .ok (.goto off, 3)) (ht : (pc : Int) + off = (tgt : Int)) (k : Y L xs tgt lv st h) : Y L xs pc lv st h := by
  intro p l e s m below meth c b G ad cA H locs ls cx hP hD hS hl
  exact lv_goto cx.1 cx.2.1 hd ht (k p l e s m below meth c b G ad cA H locs ls cx hP hD hS hl)
theorem Y.icmp_eq {a : Int32} {off : Int} {tgt : Nat} (hd : decode cL_law pc = .ok (.if_icmp .eq off, 3)) (ht : (pc : Int) + off = (tgt : Int)) (k : Y L xs tgt lv st h) : Y L xs pc lv (.int a :: .int a :: st) h := by
  intro p l e s m below meth c b G ad cA H locs ls cx hP hD hS hl
  exact lv_icmp_eq cx.1 cx.2.1 hd ht (fun _ => k p l e s m below meth c b G ad cA H locs ls cx hP hD hS hl) (fun q => absurd rfl q)
theorem Y.icmp_gt {a b : Int32} {off : Int} {tgt : Nat} (hd : decode cL_law pc = .ok (.if_icmp .gt off, 3)) (ht : (pc : Int) + off = (tgt : Int)) (kt : b < a → Y L xs tgt lv st h) (kf : ¬ b < a → Y L xs (pc + 3) lv st h) : Y L xs pc lv (.int b :: .int a :: st) h := by
  intro p l e s m below meth c b G ad cA H locs ls cx hP hD hS hl
  exact lv_icmp_gt cx.1 cx.2.1 hd ht (fun q => kt q p l e s m below meth c b G ad cA H locs ls cx hP hD hS hl) (fun q => kf q p l e s m below meth c b G ad cA H locs ls cx hP hD hS hl)
theorem Y.if_eq {a : Int32} {off : Int} {tgt : Nat} (hd : decode cL_law pc = .ok (.ifCond .eq off, 3)) (ht : (pc : Int) + off = (tgt : Int)) (kt : a = 0 → Y L xs tgt lv st h) (kf : ¬ a = 0 → Y L xs (pc + 3) lv st h) : Y L xs pc lv (.int a :: st) h := by
  intro p l e s m below meth c b G ad cA H locs ls cx hP hD hS hl
  exact lv_if_eq cx.1 cx.2.1 hd ht (fun q => kt q p l e s m below meth c b G ad cA H locs ls cx hP hD hS hl) (fun q => kf q p l e s m below meth c b G ad cA H locs ls cx hP hD hS hl)
theorem lg_cmp_rf (x : Int64) : lg_cmp x x = 0 := by
  have h : ¬ x < x := fun z => by rw [Int64.lt_iff_toInt_lt] at z; omega
  simp [lg_cmp, h]
theorem Y.lcmp {a : Int64} (hd : decode cL_law pc = .ok (.lcmp, 1)) (k : Y L xs (pc + 1) lv (.int 0 :: st) h) : Y L xs pc lv (.long a :: .long a :: st) h := by
  intro p l e s m below meth c b G ad cA H locs ls cx hP hD hS hl
  refine W.lcmp cx.1 cx.2.1 hd ?_
  rw [lg_cmp_rf]
  exact k p l e s m below meth c b G ad cA H locs ls cx hP hD hS hl
theorem Y.tabOut {dflt lo hi : Int} {offs : Array Int} {len : Nat} {x : Int32} {tgt : Nat} (hd : decode cL_law pc = .ok (.tableswitch dflt lo hi offs, len)) (hx : x.toInt < lo ∨ hi < x.toInt) (ht : (pc : Int) + dflt = (tgt : Int)) (k : Y L xs tgt lv st h) : Y L xs pc lv (.int x :: st) h := by
  intro p l e s m below meth c b G ad cA H locs ls cx hP hD hS hl
  exact lv_tableOut cx.1 cx.2.1 hd hx ht (k p l e s m below meth c b G ad cA H locs ls cx hP hD hS hl)
theorem Y.tabIn {dflt lo hi : Int} {offs : Array Int} {len : Nat} {x : Int32} {off : Int} {tgt : Nat} (hd : decode cL_law pc = .ok (.tableswitch dflt lo hi offs, len)) (h1 : ¬ x.toInt < lo) (h2 : ¬ hi < x.toInt) (ho : offs[(x.toInt - lo).toNat]? = some off) (ht : (pc : Int) + off = (tgt : Int)) (k : Y L xs tgt lv st h) : Y L xs pc lv (.int x :: st) h := by
  intro p l e s m below meth c b G ad cA H locs ls cx hP hD hS hl
  exact lv_tableIn cx.1 cx.2.1 hd h1 h2 ho ht (k p l e s m below meth c b G ad cA H locs ls cx hP hD hS hl)
theorem lA_b {s : State} {b : Nat} (h : b < s.heap.size) : ¬ lA s b := Nat.not_le.mpr h
theorem Y.sld {i : Nat} (hd : decode cL_law pc = .ok (.iaload, 1)) (hi : i < L) (hL : L ≤ 2048) (k : Y L xs (pc + 1) lv (.int (xs i) :: st) h) : Y L xs pc lv (.int (nI i) :: .ref 200 :: st) h := by
  intro p l e s m below meth c b G ad cA H locs ls cx hP hD hS hl
  obtain ⟨hx, hb, -, -, -, -, hX, hbl, -, -, -, had⟩ := id cx
  have kk := k p l e s m below meth c b G ad cA H locs ls cx hP hD hS hl
  have ec : (nI i).toNatClampNeg = i := nI_clamp (by omega)
  show W p l e room_1 s m #[Value.ref b] below meth c H locs 44 618 (lw_Z below #[Value.ref b] s) (F0 m pc ls (.int (nI i) :: .ref (ad 200) :: st.map (z_v ad)))
  rw [had]
  refine va_sld hx hb hX hbl (lA_b hbl) hS (vp_in_nI hi (by omega)) hd ?_
  rw [ec]
  exact kk
theorem Y.slen (hd : decode cL_law pc = .ok (.arraylength, 1)) (k : Y L xs (pc + 1) lv (.int (nI L) :: st) h) : Y L xs pc lv (.ref 200 :: st) h := by
  intro p l e s m below meth c b G ad cA H locs ls cx hP hD hS hl
  obtain ⟨hx, hb, -, -, -, -, hX, hbl, -, -, -, had⟩ := id cx
  have kk := k p l e s m below meth c b G ad cA H locs ls cx hP hD hS hl
  show W p l e room_1 s m #[Value.ref b] below meth c H locs 44 618 (lw_Z below #[Value.ref b] s) (F0 m pc ls (.ref (ad 200) :: st.map (z_v ad)))
  rw [had]
  exact va_slen hx hb hX hbl (lA_b hbl) hS hd kk
theorem Y.ret1 (hd : decode cL_law pc = .ok (.ireturn, 1)) : Y L xs pc lv [.int 1] h := by
  intro p l e s m below meth c b G ad cA H locs ls cx hP hD hS hl
  exact va_forget hS.2.2 (lw_ret cx.1 cx.2.1 cx.2.2.1 cx.2.2.2.2.2.2.2.2.1 hd)
theorem lw_room {d' nL' : Nat} (h1 : d' ≤ 11) (h2 : nL' ≤ 19) : (z_rm d').frames + 1 ≤ room_1.frames ∧ 8 + (nL' + 11) + (z_rm d').locals ≤ room_1.locals := by
  refine ⟨?_, ?_⟩
  · show d' + 1 ≤ 13
    omega
  · show 8 + (nL' + 11) + 38 * d' ≤ 464
    omega
theorem Y.callV {y' : MethodName} {cc' : ByteArray} {nL' : Nat} {ret' : Option FieldType} {d' : Nat} {K' : Option Value → hp → Prop} {b' idx n ci N : Nat} {As rest : List Value} {fs : List Nat} {T : u_T} (hd : decode cL_law pc = .ok (.invokevirtual idx, 3)) (hc : Cn y' cc' nL' ret' d' (.ref b' :: As) h K') (hlk : Cond.methodLink RL idx y' ∈ z_tb) (hy : z_yv y' cc' nL' ret' n) (hs : z_sh[b']? = some (.inr (ci, fs))) (hci : vwCl[ci]? = some (y'.cls, T, N)) (hn : As.length = n) (hst : st = As.reverse ++ .ref b' :: rest) (hdp : d' ≤ 11) (hnl : nL' ≤ 19) (hrest : (rest.map fun v => v.category).sum ≤ 8)
    (k : ∀ r h', K' r h' → Y L xs (pc + 3) lv (r.toList ++ rest) h') : Y L xs pc lv st h := by
  subst hst
  intro p l e s m below meth c b G ad cA H locs ls cx hP hD hS hl
  obtain ⟨hx, hb, hr, hml, hown, hts, hXs, hbl, hlocks, hK, hX, had⟩ := id cx
  obtain ⟨w1, w2, w3, w4, w5, w6, w7⟩ := hy
  have hFc : ∀ q, va_A (z_w ad cA h) H.size q → lA s q := z_free (D := G) (fun _ h => h) hD hS
  have hM := hc l G ad cA H.size
  have hrun := va_runV (R := room_1) (cells := 44) (slots := 618) (locs := locs) (below := below) (meth := meth) (e := e) (H := H) (C := y'.cls) (b := ad b') (As := As.map (z_v ad)) (rest := rest.map (z_v ad)) (n := n) (index := idx) (g := F0 m pc ls ((As.reverse ++ .ref b' :: rest).map (z_v ad))) ⟨hx, hb, hml, hown, hts⟩ hM
    ⟨callB_of n hts (z_goodIn (z_cons w4)) rfl rfl rfl (hts _ w3) (hts _ hlk) ⟨w5, w6, w7⟩ (lw_room hdp hnl), hts _ w1, hts _ w2⟩
    ⟨z_blind, va_recv hK hP hci (z_w_at hs), fun U hU hW => ⟨rfl, by rw [hU], by rw [hU]; exact hP, hK.moved hW.alike, hD.weaken (fun _ _ _ _ => trivial), by rw [hU]; exact hX.go hW hS.2.1 hFc⟩⟩
    rfl (by rw [List.length_map]; exact hn) hl.1 (by rw [z_stk]; rfl) (lv_room (by rw [z_cats]; exact hrest)) hd ⟨Nat.le_of_ble_eq_true rfl, Nat.le_of_ble_eq_true rfl⟩
  refine z_call hrun hS hFc hFc (fun r h' H1 locs1 hk hP hD hS _ => ?_)
  rw [z_ret]
  exact k r h' hk p l e s m below meth c b G ad cA H1 locs1 ls cx hP hD hS hl
end YR
