/-! THE LAW'S CASES: both sides called, their answers the same, one state behind both -/
theorem MS_fr {h h1 : hp} {S : zS} (hM : MS h S) (hf : fr30 h h1) : MS h1 S := by
  obtain ⟨⟨len, pg⟩, ⟨n, k, s, f, hr, fd, ho⟩, ⟨sz, sg, so, se⟩, kept, ⟨ihr, ik, js, ifd, iho, ⟨isz, isg, iso, ise⟩⟩, np⟩ := S
  obtain ⟨hP, hG, hE, hK, hI, hX⟩ := hM
  have e : ∀ i, 30 ≤ i → h1.1 i = h.1 i := fun i hi => (hf i hi).1
  have e0 : ∀ j, h1.1 30 j = h.1 30 j := fun j => by rw [e 30 (by decide)]
  exact ⟨hP.mv (e0 12) (e 37 (by decide)), hG.mv (e0 1) (e0 4) (e0 2) (e0 3) (e 31 (by decide)) (e 32 (by decide)) (e 33 (by decide)), hE.mv (e0 8) (e 34 (by decide)) (e 35 (by decide)) (e 36 (by decide)), hK.mv (e0 0) (e0 20) (e0 21), hI.mv (e0 22) (e0 23) (e0 24) (e0 25) (e 39 (by decide)) (e 40 (by decide)) (e 41 (by decide)) (e 42 (by decide)) (e 43 (by decide)), hX.mv (by rw [e 38 (by decide)]; exact hX.1) (e 39 (by decide)) (e 40 (by decide)) (e 41 (by decide)) (e 42 (by decide)) (e 43 (by decide))⟩
theorem D_fr {h h1 : hp} {S : zS} (hD : D h S) (hf : fr9 h h1) : D h1 S := by
  obtain ⟨⟨len, pg⟩, ⟨n, k, s, f, hr, fd, ho⟩, ⟨sz, sg, so, se⟩, kept, ⟨ihr, ik, js, ifd, iho, ⟨isz, isg, iso, ise⟩⟩, np⟩ := S
  obtain ⟨hP, hG, hE, hK, hI, hX⟩ := hD
  have e : ∀ i, i < 30 → h1.1 i = h.1 i := fun i hi => (hf i hi).1
  exact ⟨hP.mv (e 1 (by decide)) (e 2 (by decide)), hG.mv (e 3 (by decide)) (e 4 (by decide)) (e 5 (by decide)) (e 6 (by decide)), hE.mv (e 7 (by decide)) (e 8 (by decide)) (e 9 (by decide)) (e 10 (by decide)), hK.mv (e 0 (by decide)), hI.mv (e 11 (by decide)) (e 12 (by decide)) (e 13 (by decide)) (e 14 (by decide)) (e 15 (by decide)) (e 16 (by decide)) (e 17 (by decide)) (e 18 (by decide)),
    hX.mv (by rw [e 24 (by decide)]; exact hX.1) (e 12 (by decide)) (e 13 (by decide)) (e 14 (by decide)) (e 16 (by decide)) (e 17 (by decide)) (e 18 (by decide)) (by rw [e 20 (by decide)]; exact hX.2.2.2.2.1) (by rw [e 21 (by decide)]; exact hX.2.2.2.2.2.1) (by rw [e 22 (by decide)]; exact hX.2.2.2.2.2.2.1)⟩
abbrev LV (i : Nat) : List (Nat × Value) := [(3, .int (nI i)), (2, .ref 30), (1, .ref 0), (0, .ref 200)]
section YB
variable {L : Nat} {xs : Nat → Int32} {pc : Nat} {st : List Value} {h : hp} {i : Nat}
theorem Y.arg {n : Int} {j : Nat} (h0 : decode cL_law pc = .ok (.aload_n 0, 1)) (h1 : decode cL_law (pc + 1) = .ok (.iload_n 3, 1)) (h2 : decode cL_law (pc + 2) = .ok (.iconst n, 1)) (h3 : decode cL_law (pc + 3) = .ok (.iadd, 1)) (h4 : decode cL_law (pc + 4) = .ok (.iaload, 1)) (hn : Int32.ofInt n = nI j) (hi : i + j < L) (hL : L ≤ 2048) (k : Y L xs (pc + 5) (LV i) (.int (xs (i + j)) :: st) h) : Y L xs pc (LV i) st h := by
  refine Y.aload_n h0 rfl rfl ?_
  refine Y.iload_n h1 rfl rfl ?_
  refine Y.iconst h2 hn ?_
  refine Y.iadd h3 ?_
  refine Y.top (nI_add i j) ?_
  exact Y.sld h4 hi hL k
theorem Y.bool {x : Int32} (h0 : decode cL_law pc = .ok (.ifCond .eq 7, 3)) (h1 : decode cL_law (pc + 3) = .ok (.iconst 1, 1)) (h2 : decode cL_law (pc + 4) = .ok (.goto 4, 3)) (h3 : decode cL_law (pc + 7) = .ok (.iconst 0, 1)) (k : Y L xs (pc + 8) (LV i) (.int (zb (decide (¬ x = 0))) :: st) h) : Y L xs pc (LV i) (.int x :: st) h := by
  refine Y.if_eq (tgt := pc + 7) h0 (by omega) (fun e => ?_) (fun e => ?_)
  · rw [show decide (¬ x = 0) = false from decide_eq_false (fun z => z e)] at k
    exact Y.iconst h3 (v := 0) rfl k
  · rw [show decide (¬ x = 0) = true from decide_eq_true e] at k
    refine Y.iconst h1 (v := 1) rfl ?_
    exact Y.goto (tgt := pc + 8) h2 (by omega) k
theorem Y.callD {lv : List (Nat × Value)} {y' : MethodName} {cc' : ByteArray} {nL' : Nat} {ret' : Option FieldType} {d' : Nat} {v : Value} {S' : zS} {idx n N : Nat} {As rest : List Value} {T : u_T} (hd : decode cL_law pc = .ok (.invokevirtual idx, 3)) (hc : Cn y' cc' nL' ret' d' (.ref 0 :: As) h (KD h v S')) (hlk : Cond.methodLink RL idx y' ∈ z_tb) (hy : z_yv y' cc' nL' ret' n) (hci : vwCl[7]? = some (y'.cls, T, N)) (hn : As.length = n) (hst : st = As.reverse ++ .ref 0 :: rest) (hdp : d' ≤ 11) (hnl : nL' ≤ 19) (hrest : (rest.map fun v => v.category).sum ≤ 8)
    (k : ∀ h', D h' S' → fr30 h h' → Y L xs (pc + 3) lv (v :: rest) h') : Y L xs pc lv st h := by
  refine Y.callV hd hc hlk hy (ci := 7) (fs := [3, 5, 9, 13, 17, 21, 25, 27, 29, 31, 0, 0]) rfl hci hn hst hdp hnl hrest (fun r h' q => ?_)
  obtain ⟨rfl, q1, q2⟩ := q
  exact k h' q1 q2
theorem Y.callM {lv : List (Nat × Value)} {y' : MethodName} {cc' : ByteArray} {nL' : Nat} {ret' : Option FieldType} {d' : Nat} {v : Value} {S' : zS} {idx n N : Nat} {As rest : List Value} {T : u_T} (hd : decode cL_law pc = .ok (.invokevirtual idx, 3)) (hc : Cn y' cc' nL' ret' d' (.ref 30 :: As) h (KM h v S')) (hlk : Cond.methodLink RL idx y' ∈ z_tb) (hy : z_yv y' cc' nL' ret' n) (hci : vwCl[8]? = some (y'.cls, T, N)) (hn : As.length = n) (hst : st = As.reverse ++ .ref 30 :: rest) (hdp : d' ≤ 11) (hnl : nL' ≤ 19) (hrest : (rest.map fun v => v.category).sum ≤ 8)
    (k : ∀ h', MS h' S' → fr9 h h' → Y L xs (pc + 3) lv (v :: rest) h') : Y L xs pc lv st h := by
  refine Y.callV hd hc hlk hy (ci := 8) (fs := [0, 0, 0, 0, 0, 33, 34, 35, 0, 36, 37, 38, 0, 39, 0, 0, 40, 0, 0, 1, 0, 0, 0, 0, 0, 0, 41, 42, 43, 44, 45, 1]) rfl hci hn hst hdp hnl hrest (fun r h' q => ?_)
  obtain ⟨rfl, q1, q2⟩ := q
  exact k h' q1 q2
theorem lk_letter (hL : L ≤ 2048) (hi : i + 4 ≤ L) {S : zS} (hD : D h S) (hM : MS h S) (hS : OkS S) (kk : ∀ h', D h' (a_letter S (xs (i + 1))).2 → MS h' (a_letter S (xs (i + 1))).2 → Y L xs 703 (LV i) [] h') : Y L xs 144 (LV i) [] h := by
  obtain ⟨⟨len, pg⟩, ⟨n, k, s, f, hr, fd, ho⟩, ⟨sz, sg, so, se⟩, kept, ⟨ihr, ik, js, ifd, iho, ⟨isz, isg, iso, ise⟩⟩, np⟩ := S
  refine Y.aload_n dL_law_144 rfl rfl ?_
  refine Y.arg (n := 1) (j := 1) dL_law_145 dL_law_146 dL_law_147 dL_law_148 dL_law_149 rfl (by omega) hL ?_
  refine Y.callD (As := [.int (xs (i + 1))]) (rest := []) dL_law_150 (c_X8_letter hD hS (xs (i + 1))) zm_L_13 zv_X8_letter rfl rfl rfl (by decide) (by decide) (Nat.le_of_ble_eq_true rfl) (fun h1 hD1 hf1 => ?_)
  refine Y.aload_n dL_law_153 rfl rfl ?_
  refine Y.arg (n := 1) (j := 1) dL_law_154 dL_law_155 dL_law_156 dL_law_157 dL_law_158 rfl (by omega) hL ?_
  refine Y.callM (As := [.int (xs (i + 1))]) (rest := [_]) dL_law_159 (c_X9_letter (MS_fr hM hf1) hS (xs (i + 1))) zm_L_17 zv_X9_letter rfl rfl rfl (by decide) (by decide) (Nat.le_of_ble_eq_true rfl) (fun h2 hM2 hf2 => ?_)
  exact Y.icmp_eq dL_law_162 rfl (kk h2 (D_fr hD1 hf2) hM2)
theorem lk_blank (hL : L ≤ 2048) (hi : i + 4 ≤ L) {S : zS} (hD : D h S) (hM : MS h S) (hS : OkS S) (kk : ∀ h', D h' (a_blank S).2 → MS h' (a_blank S).2 → Y L xs 703 (LV i) [] h') : Y L xs 167 (LV i) [] h := by
  obtain ⟨⟨len, pg⟩, ⟨n, k, s, f, hr, fd, ho⟩, ⟨sz, sg, so, se⟩, kept, ⟨ihr, ik, js, ifd, iho, ⟨isz, isg, iso, ise⟩⟩, np⟩ := S
  refine Y.aload_n dL_law_167 rfl rfl ?_
  refine Y.callD (As := []) (rest := []) dL_law_168 (c_X8_blank hD hS) zm_L_18 zv_X8_blank rfl rfl rfl (by decide) (by decide) (Nat.le_of_ble_eq_true rfl) (fun h1 hD1 hf1 => ?_)
  refine Y.aload_n dL_law_171 rfl rfl ?_
  refine Y.callM (As := []) (rest := [_]) dL_law_172 (c_X9_blank (MS_fr hM hf1) hS) zm_L_22 zv_X9_blank rfl rfl rfl (by decide) (by decide) (Nat.le_of_ble_eq_true rfl) (fun h2 hM2 hf2 => ?_)
  exact Y.icmp_eq dL_law_175 rfl (kk h2 (D_fr hD1 hf2) hM2)
theorem lk_fault (hL : L ≤ 2048) (hi : i + 4 ≤ L) {S : zS} (hD : D h S) (hM : MS h S) (hS : OkS S) (kk : ∀ h', D h' (a_fault S).2 → MS h' (a_fault S).2 → Y L xs 703 (LV i) [] h') : Y L xs 180 (LV i) [] h := by
  obtain ⟨⟨len, pg⟩, ⟨n, k, s, f, hr, fd, ho⟩, ⟨sz, sg, so, se⟩, kept, ⟨ihr, ik, js, ifd, iho, ⟨isz, isg, iso, ise⟩⟩, np⟩ := S
  refine Y.aload_n dL_law_180 rfl rfl ?_
  refine Y.callD (As := []) (rest := []) dL_law_181 (c_X8_fault hD hS) zm_L_23 zv_X8_fault rfl rfl rfl (by decide) (by decide) (Nat.le_of_ble_eq_true rfl) (fun h1 hD1 hf1 => ?_)
  refine Y.aload_n dL_law_184 rfl rfl ?_
  refine Y.callM (As := []) (rest := [_]) dL_law_185 (c_X9_fault (MS_fr hM hf1) hS) zm_L_26 zv_X9_fault rfl rfl rfl (by decide) (by decide) (Nat.le_of_ble_eq_true rfl) (fun h2 hM2 hf2 => ?_)
  exact Y.icmp_eq dL_law_188 rfl (kk h2 (D_fr hD1 hf2) hM2)
theorem lk_party (hL : L ≤ 2048) (hi : i + 4 ≤ L) {S : zS} (hD : D h S) (hM : MS h S) (hS : OkS S) (kk : ∀ h', D h' (a_party S).2 → MS h' (a_party S).2 → Y L xs 703 (LV i) [] h') : Y L xs 193 (LV i) [] h := by
  obtain ⟨⟨len, pg⟩, ⟨n, k, s, f, hr, fd, ho⟩, ⟨sz, sg, so, se⟩, kept, ⟨ihr, ik, js, ifd, iho, ⟨isz, isg, iso, ise⟩⟩, np⟩ := S
  refine Y.aload_n dL_law_193 rfl rfl ?_
  refine Y.callD (As := []) (rest := []) dL_law_194 (c_X8_party hD hS) zm_L_27 zv_X8_party rfl rfl rfl (by decide) (by decide) (Nat.le_of_ble_eq_true rfl) (fun h1 hD1 hf1 => ?_)
  refine Y.aload_n dL_law_197 rfl rfl ?_
  refine Y.callM (As := []) (rest := [_]) dL_law_198 (c_X9_party (MS_fr hM hf1) hS) zm_L_30 zv_X9_party rfl rfl rfl (by decide) (by decide) (Nat.le_of_ble_eq_true rfl) (fun h2 hM2 hf2 => ?_)
  exact Y.icmp_eq dL_law_201 rfl (kk h2 (D_fr hD1 hf2) hM2)
theorem lk_guest (hL : L ≤ 2048) (hi : i + 4 ≤ L) {S : zS} (hD : D h S) (hM : MS h S) (hS : OkS S) (kk : ∀ h', D h' (a_guest S (xs (i + 1)) (xs (i + 2))).2 → MS h' (a_guest S (xs (i + 1)) (xs (i + 2))).2 → Y L xs 703 (LV i) [] h') : Y L xs 206 (LV i) [] h := by
  obtain ⟨⟨len, pg⟩, ⟨n, k, s, f, hr, fd, ho⟩, ⟨sz, sg, so, se⟩, kept, ⟨ihr, ik, js, ifd, iho, ⟨isz, isg, iso, ise⟩⟩, np⟩ := S
  refine Y.aload_n dL_law_206 rfl rfl ?_
  refine Y.arg (n := 1) (j := 1) dL_law_207 dL_law_208 dL_law_209 dL_law_210 dL_law_211 rfl (by omega) hL ?_
  refine Y.arg (n := 2) (j := 2) dL_law_212 dL_law_213 dL_law_214 dL_law_215 dL_law_216 rfl (by omega) hL ?_
  refine Y.callD (As := [.int (xs (i + 1)), .int (xs (i + 2))]) (rest := []) dL_law_217 (c_X8_guest hD hS (xs (i + 1)) (xs (i + 2))) zm_L_31 zv_X8_guest rfl rfl rfl (by decide) (by decide) (Nat.le_of_ble_eq_true rfl) (fun h1 hD1 hf1 => ?_)
  refine Y.aload_n dL_law_220 rfl rfl ?_
  refine Y.arg (n := 1) (j := 1) dL_law_221 dL_law_222 dL_law_223 dL_law_224 dL_law_225 rfl (by omega) hL ?_
  refine Y.arg (n := 2) (j := 2) dL_law_226 dL_law_227 dL_law_228 dL_law_229 dL_law_230 rfl (by omega) hL ?_
  refine Y.callM (As := [.int (xs (i + 1)), .int (xs (i + 2))]) (rest := [_]) dL_law_231 (c_X9_guest (MS_fr hM hf1) hS (xs (i + 1)) (xs (i + 2))) zm_L_35 zv_X9_guest rfl rfl rfl (by decide) (by decide) (Nat.le_of_ble_eq_true rfl) (fun h2 hM2 hf2 => ?_)
  exact Y.icmp_eq dL_law_234 rfl (kk h2 (D_fr hD1 hf2) hM2)
theorem lk_as (hL : L ≤ 2048) (hi : i + 4 ≤ L) {S : zS} (hD : D h S) (hM : MS h S) (hS : OkS S) (kk : ∀ h', D h' (a_as S (xs (i + 1)) (xs (i + 2))).2 → MS h' (a_as S (xs (i + 1)) (xs (i + 2))).2 → Y L xs 703 (LV i) [] h') : Y L xs 239 (LV i) [] h := by
  obtain ⟨⟨len, pg⟩, ⟨n, k, s, f, hr, fd, ho⟩, ⟨sz, sg, so, se⟩, kept, ⟨ihr, ik, js, ifd, iho, ⟨isz, isg, iso, ise⟩⟩, np⟩ := S
  refine Y.aload_n dL_law_239 rfl rfl ?_
  refine Y.arg (n := 1) (j := 1) dL_law_240 dL_law_241 dL_law_242 dL_law_243 dL_law_244 rfl (by omega) hL ?_
  refine Y.arg (n := 2) (j := 2) dL_law_245 dL_law_246 dL_law_247 dL_law_248 dL_law_249 rfl (by omega) hL ?_
  refine Y.callD (As := [.int (xs (i + 1)), .int (xs (i + 2))]) (rest := []) dL_law_250 (c_X8_as hD hS (xs (i + 1)) (xs (i + 2))) zm_L_36 zv_X8_as rfl rfl rfl (by decide) (by decide) (Nat.le_of_ble_eq_true rfl) (fun h1 hD1 hf1 => ?_)
  refine Y.aload_n dL_law_253 rfl rfl ?_
  refine Y.arg (n := 1) (j := 1) dL_law_254 dL_law_255 dL_law_256 dL_law_257 dL_law_258 rfl (by omega) hL ?_
  refine Y.arg (n := 2) (j := 2) dL_law_259 dL_law_260 dL_law_261 dL_law_262 dL_law_263 rfl (by omega) hL ?_
  refine Y.callM (As := [.int (xs (i + 1)), .int (xs (i + 2))]) (rest := [_]) dL_law_264 (c_X9_as (MS_fr hM hf1) hS (xs (i + 1)) (xs (i + 2))) zm_L_39 zv_X9_as rfl rfl rfl (by decide) (by decide) (Nat.le_of_ble_eq_true rfl) (fun h2 hM2 hf2 => ?_)
  exact Y.icmp_eq dL_law_267 rfl (kk h2 (D_fr hD1 hf2) hM2)
theorem lk_rise (hL : L ≤ 2048) (hi : i + 4 ≤ L) {S : zS} (hD : D h S) (hM : MS h S) (hS : OkS S) (kk : ∀ h', D h' (a_rise S (xs (i + 1))).2 → MS h' (a_rise S (xs (i + 1))).2 → Y L xs 703 (LV i) [] h') : Y L xs 272 (LV i) [] h := by
  obtain ⟨⟨len, pg⟩, ⟨n, k, s, f, hr, fd, ho⟩, ⟨sz, sg, so, se⟩, kept, ⟨ihr, ik, js, ifd, iho, ⟨isz, isg, iso, ise⟩⟩, np⟩ := S
  refine Y.aload_n dL_law_272 rfl rfl ?_
  refine Y.arg (n := 1) (j := 1) dL_law_273 dL_law_274 dL_law_275 dL_law_276 dL_law_277 rfl (by omega) hL ?_
  refine Y.callD (As := [.int (xs (i + 1))]) (rest := []) dL_law_278 (c_X8_rise hD hS (xs (i + 1))) zm_L_40 zv_X8_rise rfl rfl rfl (by decide) (by decide) (Nat.le_of_ble_eq_true rfl) (fun h1 hD1 hf1 => ?_)
  refine Y.aload_n dL_law_281 rfl rfl ?_
  refine Y.arg (n := 1) (j := 1) dL_law_282 dL_law_283 dL_law_284 dL_law_285 dL_law_286 rfl (by omega) hL ?_
  refine Y.callM (As := [.int (xs (i + 1))]) (rest := [_]) dL_law_287 (c_X9_rise (MS_fr hM hf1) hS (xs (i + 1))) zm_L_43 zv_X9_rise rfl rfl rfl (by decide) (by decide) (Nat.le_of_ble_eq_true rfl) (fun h2 hM2 hf2 => ?_)
  exact Y.icmp_eq dL_law_290 rfl (kk h2 (D_fr hD1 hf2) hM2)
theorem lk_hour (hL : L ≤ 2048) (hi : i + 4 ≤ L) {S : zS} (hD : D h S) (hM : MS h S) (hS : OkS S) (kk : ∀ h', D h' (a_hour S).2 → MS h' (a_hour S).2 → Y L xs 703 (LV i) [] h') : Y L xs 295 (LV i) [] h := by
  obtain ⟨⟨len, pg⟩, ⟨n, k, s, f, hr, fd, ho⟩, ⟨sz, sg, so, se⟩, kept, ⟨ihr, ik, js, ifd, iho, ⟨isz, isg, iso, ise⟩⟩, np⟩ := S
  refine Y.aload_n dL_law_295 rfl rfl ?_
  refine Y.callD (As := []) (rest := []) dL_law_296 (c_X8_hour hD hS) zm_L_44 zv_X8_hour rfl rfl rfl (by decide) (by decide) (Nat.le_of_ble_eq_true rfl) (fun h1 hD1 hf1 => ?_)
  refine Y.aload_n dL_law_299 rfl rfl ?_
  refine Y.callM (As := []) (rest := [_]) dL_law_300 (c_X9_hour (MS_fr hM hf1) hS) zm_L_47 zv_X9_hour rfl rfl rfl (by decide) (by decide) (Nat.le_of_ble_eq_true rfl) (fun h2 hM2 hf2 => ?_)
  exact Y.icmp_eq dL_law_303 rfl (kk h2 (D_fr hD1 hf2) hM2)
theorem lk_hint (hL : L ≤ 2048) (hi : i + 4 ≤ L) {S : zS} (hD : D h S) (hM : MS h S) (hS : OkS S) (kk : ∀ h', D h' (a_hint S (xs (i + 1))).2 → MS h' (a_hint S (xs (i + 1))).2 → Y L xs 703 (LV i) [] h') : Y L xs 308 (LV i) [] h := by
  obtain ⟨⟨len, pg⟩, ⟨n, k, s, f, hr, fd, ho⟩, ⟨sz, sg, so, se⟩, kept, ⟨ihr, ik, js, ifd, iho, ⟨isz, isg, iso, ise⟩⟩, np⟩ := S
  refine Y.aload_n dL_law_308 rfl rfl ?_
  refine Y.arg (n := 1) (j := 1) dL_law_309 dL_law_310 dL_law_311 dL_law_312 dL_law_313 rfl (by omega) hL ?_
  refine Y.callD (As := [.int (xs (i + 1))]) (rest := []) dL_law_314 (c_X8_hint hD hS (xs (i + 1))) zm_L_48 zv_X8_hint rfl rfl rfl (by decide) (by decide) (Nat.le_of_ble_eq_true rfl) (fun h1 hD1 hf1 => ?_)
  refine Y.aload_n dL_law_317 rfl rfl ?_
  refine Y.arg (n := 1) (j := 1) dL_law_318 dL_law_319 dL_law_320 dL_law_321 dL_law_322 rfl (by omega) hL ?_
  refine Y.callM (As := [.int (xs (i + 1))]) (rest := [_]) dL_law_323 (c_X9_hint (MS_fr hM hf1) hS (xs (i + 1))) zm_L_51 zv_X9_hint rfl rfl rfl (by decide) (by decide) (Nat.le_of_ble_eq_true rfl) (fun h2 hM2 hf2 => ?_)
  exact Y.icmp_eq dL_law_326 rfl (kk h2 (D_fr hD1 hf2) hM2)
theorem lk_back (hL : L ≤ 2048) (hi : i + 4 ≤ L) {S : zS} (hD : D h S) (hM : MS h S) (hS : OkS S) (kk : ∀ h', D h' (a_back S (xs (i + 1))).2 → MS h' (a_back S (xs (i + 1))).2 → Y L xs 703 (LV i) [] h') : Y L xs 331 (LV i) [] h := by
  obtain ⟨⟨len, pg⟩, ⟨n, k, s, f, hr, fd, ho⟩, ⟨sz, sg, so, se⟩, kept, ⟨ihr, ik, js, ifd, iho, ⟨isz, isg, iso, ise⟩⟩, np⟩ := S
  refine Y.aload_n dL_law_331 rfl rfl ?_
  refine Y.arg (n := 1) (j := 1) dL_law_332 dL_law_333 dL_law_334 dL_law_335 dL_law_336 rfl (by omega) hL ?_
  refine Y.callD (As := [.int (xs (i + 1))]) (rest := []) dL_law_337 (c_X8_back hD hS (xs (i + 1))) zm_L_52 zv_X8_back rfl rfl rfl (by decide) (by decide) (Nat.le_of_ble_eq_true rfl) (fun h1 hD1 hf1 => ?_)
  refine Y.aload_n dL_law_340 rfl rfl ?_
  refine Y.arg (n := 1) (j := 1) dL_law_341 dL_law_342 dL_law_343 dL_law_344 dL_law_345 rfl (by omega) hL ?_
  refine Y.callM (As := [.int (xs (i + 1))]) (rest := [_]) dL_law_346 (c_X9_back (MS_fr hM hf1) hS (xs (i + 1))) zm_L_55 zv_X9_back rfl rfl rfl (by decide) (by decide) (Nat.le_of_ble_eq_true rfl) (fun h2 hM2 hf2 => ?_)
  exact Y.icmp_eq dL_law_349 rfl (kk h2 (D_fr hD1 hf2) hM2)
theorem lk_feed (hL : L ≤ 2048) (hi : i + 4 ≤ L) {S : zS} (hD : D h S) (hM : MS h S) (hS : OkS S) (kk : ∀ h', D h' (a_feed S (xs (i + 1))).2 → MS h' (a_feed S (xs (i + 1))).2 → Y L xs 703 (LV i) [] h') : Y L xs 354 (LV i) [] h := by
  obtain ⟨⟨len, pg⟩, ⟨n, k, s, f, hr, fd, ho⟩, ⟨sz, sg, so, se⟩, kept, ⟨ihr, ik, js, ifd, iho, ⟨isz, isg, iso, ise⟩⟩, np⟩ := S
  refine Y.aload_n dL_law_354 rfl rfl ?_
  refine Y.arg (n := 1) (j := 1) dL_law_355 dL_law_356 dL_law_357 dL_law_358 dL_law_359 rfl (by omega) hL ?_
  refine Y.callD (As := [.int (xs (i + 1))]) (rest := []) dL_law_360 (c_X8_feed hD hS (xs (i + 1))) zm_L_56 zv_X8_feed rfl rfl rfl (by decide) (by decide) (Nat.le_of_ble_eq_true rfl) (fun h1 hD1 hf1 => ?_)
  refine Y.aload_n dL_law_363 rfl rfl ?_
  refine Y.arg (n := 1) (j := 1) dL_law_364 dL_law_365 dL_law_366 dL_law_367 dL_law_368 rfl (by omega) hL ?_
  refine Y.callM (As := [.int (xs (i + 1))]) (rest := [_]) dL_law_369 (c_X9_feed (MS_fr hM hf1) hS (xs (i + 1))) zm_L_59 zv_X9_feed rfl rfl rfl (by decide) (by decide) (Nat.le_of_ble_eq_true rfl) (fun h2 hM2 hf2 => ?_)
  exact Y.icmp_eq dL_law_372 rfl (kk h2 (D_fr hD1 hf2) hM2)
theorem lk_turn (hL : L ≤ 2048) (hi : i + 4 ≤ L) {S : zS} (hD : D h S) (hM : MS h S) (hS : OkS S) (kk : ∀ h', D h' (a_turn S (xs (i + 1)) (xs (i + 2)) (xs (i + 3))).2 → MS h' (a_turn S (xs (i + 1)) (xs (i + 2)) (xs (i + 3))).2 → Y L xs 703 (LV i) [] h') : Y L xs 377 (LV i) [] h := by
  obtain ⟨⟨len, pg⟩, ⟨n, k, s, f, hr, fd, ho⟩, ⟨sz, sg, so, se⟩, kept, ⟨ihr, ik, js, ifd, iho, ⟨isz, isg, iso, ise⟩⟩, np⟩ := S
  refine Y.aload_n dL_law_377 rfl rfl ?_
  refine Y.arg (n := 1) (j := 1) dL_law_378 dL_law_379 dL_law_380 dL_law_381 dL_law_382 rfl (by omega) hL ?_
  refine Y.arg (n := 2) (j := 2) dL_law_383 dL_law_384 dL_law_385 dL_law_386 dL_law_387 rfl (by omega) hL ?_
  refine Y.arg (n := 3) (j := 3) dL_law_388 dL_law_389 dL_law_390 dL_law_391 dL_law_392 rfl (by omega) hL ?_
  refine Y.callD (As := [.int (xs (i + 1)), .int (xs (i + 2)), .int (xs (i + 3))]) (rest := []) dL_law_393 (c_X8_turn hD hS (xs (i + 1)) (xs (i + 2)) (xs (i + 3))) zm_L_60 zv_X8_turn rfl rfl rfl (by decide) (by decide) (Nat.le_of_ble_eq_true rfl) (fun h1 hD1 hf1 => ?_)
  refine Y.aload_n dL_law_396 rfl rfl ?_
  refine Y.arg (n := 1) (j := 1) dL_law_397 dL_law_398 dL_law_399 dL_law_400 dL_law_401 rfl (by omega) hL ?_
  refine Y.arg (n := 2) (j := 2) dL_law_402 dL_law_403 dL_law_404 dL_law_405 dL_law_406 rfl (by omega) hL ?_
  refine Y.arg (n := 3) (j := 3) dL_law_407 dL_law_408 dL_law_409 dL_law_410 dL_law_411 rfl (by omega) hL ?_
  refine Y.callM (As := [.int (xs (i + 1)), .int (xs (i + 2)), .int (xs (i + 3))]) (rest := [_]) dL_law_412 (c_X9_turn (MS_fr hM hf1) hS (xs (i + 1)) (xs (i + 2)) (xs (i + 3))) zm_L_64 zv_X9_turn rfl rfl rfl (by decide) (by decide) (Nat.le_of_ble_eq_true rfl) (fun h2 hM2 hf2 => ?_)
  exact Y.icmp_eq dL_law_415 rfl (kk h2 (D_fr hD1 hf2) hM2)
theorem lk_most (hL : L ≤ 2048) (hi : i + 4 ≤ L) {S : zS} (hD : D h S) (hM : MS h S) (hS : OkS S) (kk : ∀ h', D h' (a_most S).2 → MS h' (a_most S).2 → Y L xs 703 (LV i) [] h') : Y L xs 420 (LV i) [] h := by
  obtain ⟨⟨len, pg⟩, ⟨n, k, s, f, hr, fd, ho⟩, ⟨sz, sg, so, se⟩, kept, ⟨ihr, ik, js, ifd, iho, ⟨isz, isg, iso, ise⟩⟩, np⟩ := S
  refine Y.aload_n dL_law_420 rfl rfl ?_
  refine Y.callD (As := []) (rest := []) dL_law_421 (c_X8_most hD hS) zm_L_65 zv_X8_most rfl rfl rfl (by decide) (by decide) (Nat.le_of_ble_eq_true rfl) (fun h1 hD1 hf1 => ?_)
  refine Y.aload_n dL_law_424 rfl rfl ?_
  refine Y.callM (As := []) (rest := [_]) dL_law_425 (c_X9_most (MS_fr hM hf1) hS) zm_L_68 zv_X9_most rfl rfl rfl (by decide) (by decide) (Nat.le_of_ble_eq_true rfl) (fun h2 hM2 hf2 => ?_)
  exact Y.icmp_eq dL_law_428 rfl (kk h2 (D_fr hD1 hf2) hM2)
theorem lk_least (hL : L ≤ 2048) (hi : i + 4 ≤ L) {S : zS} (hD : D h S) (hM : MS h S) (hS : OkS S) (kk : ∀ h', D h' (a_least S).2 → MS h' (a_least S).2 → Y L xs 703 (LV i) [] h') : Y L xs 433 (LV i) [] h := by
  obtain ⟨⟨len, pg⟩, ⟨n, k, s, f, hr, fd, ho⟩, ⟨sz, sg, so, se⟩, kept, ⟨ihr, ik, js, ifd, iho, ⟨isz, isg, iso, ise⟩⟩, np⟩ := S
  refine Y.aload_n dL_law_433 rfl rfl ?_
  refine Y.callD (As := []) (rest := []) dL_law_434 (c_X8_least hD hS) zm_L_69 zv_X8_least rfl rfl rfl (by decide) (by decide) (Nat.le_of_ble_eq_true rfl) (fun h1 hD1 hf1 => ?_)
  refine Y.aload_n dL_law_437 rfl rfl ?_
  refine Y.callM (As := []) (rest := [_]) dL_law_438 (c_X9_least (MS_fr hM hf1) hS) zm_L_72 zv_X9_least rfl rfl rfl (by decide) (by decide) (Nat.le_of_ble_eq_true rfl) (fun h2 hM2 hf2 => ?_)
  exact Y.icmp_eq dL_law_441 rfl (kk h2 (D_fr hD1 hf2) hM2)
theorem lk_hire (hL : L ≤ 2048) (hi : i + 4 ≤ L) {S : zS} (hD : D h S) (hM : MS h S) (hS : OkS S) (kk : ∀ h', D h' (a_hire S (xs (i + 1))).2 → MS h' (a_hire S (xs (i + 1))).2 → Y L xs 703 (LV i) [] h') : Y L xs 446 (LV i) [] h := by
  obtain ⟨⟨len, pg⟩, ⟨n, k, s, f, hr, fd, ho⟩, ⟨sz, sg, so, se⟩, kept, ⟨ihr, ik, js, ifd, iho, ⟨isz, isg, iso, ise⟩⟩, np⟩ := S
  refine Y.aload_n dL_law_446 rfl rfl ?_
  refine Y.arg (n := 1) (j := 1) dL_law_447 dL_law_448 dL_law_449 dL_law_450 dL_law_451 rfl (by omega) hL ?_
  refine Y.callD (As := [.int (xs (i + 1))]) (rest := []) dL_law_452 (c_X8_hire hD hS (xs (i + 1))) zm_L_73 zv_X8_hire rfl rfl rfl (by decide) (by decide) (Nat.le_of_ble_eq_true rfl) (fun h1 hD1 hf1 => ?_)
  refine Y.aload_n dL_law_455 rfl rfl ?_
  refine Y.arg (n := 1) (j := 1) dL_law_456 dL_law_457 dL_law_458 dL_law_459 dL_law_460 rfl (by omega) hL ?_
  refine Y.callM (As := [.int (xs (i + 1))]) (rest := [_]) dL_law_461 (c_X9_hire (MS_fr hM hf1) hS (xs (i + 1))) zm_L_76 zv_X9_hire rfl rfl rfl (by decide) (by decide) (Nat.le_of_ble_eq_true rfl) (fun h2 hM2 hf2 => ?_)
  exact Y.icmp_eq dL_law_464 rfl (kk h2 (D_fr hD1 hf2) hM2)
theorem lk_ends (hL : L ≤ 2048) (hi : i + 4 ≤ L) {S : zS} (hD : D h S) (hM : MS h S) (hS : OkS S) (kk : ∀ h', D h' (a_ends S).2 → MS h' (a_ends S).2 → Y L xs 703 (LV i) [] h') : Y L xs 469 (LV i) [] h := by
  obtain ⟨⟨len, pg⟩, ⟨n, k, s, f, hr, fd, ho⟩, ⟨sz, sg, so, se⟩, kept, ⟨ihr, ik, js, ifd, iho, ⟨isz, isg, iso, ise⟩⟩, np⟩ := S
  refine Y.aload_n dL_law_469 rfl rfl ?_
  refine Y.callD (As := []) (rest := []) dL_law_470 (c_X8_ends hD hS) zm_L_77 zv_X8_ends rfl rfl rfl (by decide) (by decide) (Nat.le_of_ble_eq_true rfl) (fun h1 hD1 hf1 => ?_)
  refine Y.aload_n dL_law_473 rfl rfl ?_
  refine Y.callM (As := []) (rest := [_]) dL_law_474 (c_X9_ends (MS_fr hM hf1) hS) zm_L_80 zv_X9_ends rfl rfl rfl (by decide) (by decide) (Nat.le_of_ble_eq_true rfl) (fun h2 hM2 hf2 => ?_)
  exact Y.icmp_eq dL_law_477 rfl (kk h2 (D_fr hD1 hf2) hM2)
theorem lk_odds (hL : L ≤ 2048) (hi : i + 4 ≤ L) {S : zS} (hD : D h S) (hM : MS h S) (hS : OkS S) (kk : ∀ h', D h' (a_odds S (xs (i + 1)) (xs (i + 2)) (xs (i + 3))).2 → MS h' (a_odds S (xs (i + 1)) (xs (i + 2)) (xs (i + 3))).2 → Y L xs 703 (LV i) [] h') : Y L xs 482 (LV i) [] h := by
  obtain ⟨⟨len, pg⟩, ⟨n, k, s, f, hr, fd, ho⟩, ⟨sz, sg, so, se⟩, kept, ⟨ihr, ik, js, ifd, iho, ⟨isz, isg, iso, ise⟩⟩, np⟩ := S
  refine Y.aload_n dL_law_482 rfl rfl ?_
  refine Y.arg (n := 1) (j := 1) dL_law_483 dL_law_484 dL_law_485 dL_law_486 dL_law_487 rfl (by omega) hL ?_
  refine Y.arg (n := 2) (j := 2) dL_law_488 dL_law_489 dL_law_490 dL_law_491 dL_law_492 rfl (by omega) hL ?_
  refine Y.arg (n := 3) (j := 3) dL_law_493 dL_law_494 dL_law_495 dL_law_496 dL_law_497 rfl (by omega) hL ?_
  refine Y.callD (As := [.int (xs (i + 1)), .int (xs (i + 2)), .int (xs (i + 3))]) (rest := []) dL_law_498 (c_X8_odds hD hS (xs (i + 1)) (xs (i + 2)) (xs (i + 3))) zm_L_81 zv_X8_odds rfl rfl rfl (by decide) (by decide) (Nat.le_of_ble_eq_true rfl) (fun h1 hD1 hf1 => ?_)
  refine Y.aload_n dL_law_501 rfl rfl ?_
  refine Y.arg (n := 1) (j := 1) dL_law_502 dL_law_503 dL_law_504 dL_law_505 dL_law_506 rfl (by omega) hL ?_
  refine Y.arg (n := 2) (j := 2) dL_law_507 dL_law_508 dL_law_509 dL_law_510 dL_law_511 rfl (by omega) hL ?_
  refine Y.arg (n := 3) (j := 3) dL_law_512 dL_law_513 dL_law_514 dL_law_515 dL_law_516 rfl (by omega) hL ?_
  refine Y.callM (As := [.int (xs (i + 1)), .int (xs (i + 2)), .int (xs (i + 3))]) (rest := [_]) dL_law_517 (c_X9_odds (MS_fr hM hf1) hS (xs (i + 1)) (xs (i + 2)) (xs (i + 3))) zm_L_84 zv_X9_odds rfl rfl rfl (by decide) (by decide) (Nat.le_of_ble_eq_true rfl) (fun h2 hM2 hf2 => ?_)
  exact Y.icmp_eq dL_law_520 rfl (kk h2 (D_fr hD1 hf2) hM2)
theorem lk_see (hL : L ≤ 2048) (hi : i + 4 ≤ L) {S : zS} (hD : D h S) (hM : MS h S) (hS : OkS S) (kk : ∀ h', D h' (a_see S (xs (i + 1)) (xs (i + 2)) (decide (¬ xs (i + 3) = 0))).2 → MS h' (a_see S (xs (i + 1)) (xs (i + 2)) (decide (¬ xs (i + 3) = 0))).2 → Y L xs 703 (LV i) [] h') : Y L xs 525 (LV i) [] h := by
  obtain ⟨⟨len, pg⟩, ⟨n, k, s, f, hr, fd, ho⟩, ⟨sz, sg, so, se⟩, kept, ⟨ihr, ik, js, ifd, iho, ⟨isz, isg, iso, ise⟩⟩, np⟩ := S
  refine Y.aload_n dL_law_525 rfl rfl ?_
  refine Y.arg (n := 1) (j := 1) dL_law_526 dL_law_527 dL_law_528 dL_law_529 dL_law_530 rfl (by omega) hL ?_
  refine Y.arg (n := 2) (j := 2) dL_law_531 dL_law_532 dL_law_533 dL_law_534 dL_law_535 rfl (by omega) hL ?_
  refine Y.arg (n := 3) (j := 3) dL_law_536 dL_law_537 dL_law_538 dL_law_539 dL_law_540 rfl (by omega) hL ?_
  refine Y.bool dL_law_541 dL_law_544 dL_law_545 dL_law_548 ?_
  refine Y.callD (As := [.int (xs (i + 1)), .int (xs (i + 2)), .int (zb (decide (¬ xs (i + 3) = 0)))]) (rest := []) dL_law_549 (c_X8_see hD hS (xs (i + 1)) (xs (i + 2)) (decide (¬ xs (i + 3) = 0))) zm_L_85 zv_X8_see rfl rfl rfl (by decide) (by decide) (Nat.le_of_ble_eq_true rfl) (fun h1 hD1 hf1 => ?_)
  refine Y.aload_n dL_law_552 rfl rfl ?_
  refine Y.arg (n := 1) (j := 1) dL_law_553 dL_law_554 dL_law_555 dL_law_556 dL_law_557 rfl (by omega) hL ?_
  refine Y.arg (n := 2) (j := 2) dL_law_558 dL_law_559 dL_law_560 dL_law_561 dL_law_562 rfl (by omega) hL ?_
  refine Y.arg (n := 3) (j := 3) dL_law_563 dL_law_564 dL_law_565 dL_law_566 dL_law_567 rfl (by omega) hL ?_
  refine Y.bool dL_law_568 dL_law_571 dL_law_572 dL_law_575 ?_
  refine Y.callM (As := [.int (xs (i + 1)), .int (xs (i + 2)), .int (zb (decide (¬ xs (i + 3) = 0)))]) (rest := [_]) dL_law_576 (c_X9_see (MS_fr hM hf1) hS (xs (i + 1)) (xs (i + 2)) (decide (¬ xs (i + 3) = 0))) zm_L_89 zv_X9_see rfl rfl rfl (by decide) (by decide) (Nat.le_of_ble_eq_true rfl) (fun h2 hM2 hf2 => ?_)
  exact Y.icmp_eq dL_law_579 rfl (kk h2 (D_fr hD1 hf2) hM2)
theorem lk_forget (hL : L ≤ 2048) (hi : i + 4 ≤ L) {S : zS} (hD : D h S) (hM : MS h S) (hS : OkS S) (kk : ∀ h', D h' (a_forget S).2 → MS h' (a_forget S).2 → Y L xs 703 (LV i) [] h') : Y L xs 584 (LV i) [] h := by
  obtain ⟨⟨len, pg⟩, ⟨n, k, s, f, hr, fd, ho⟩, ⟨sz, sg, so, se⟩, kept, ⟨ihr, ik, js, ifd, iho, ⟨isz, isg, iso, ise⟩⟩, np⟩ := S
  refine Y.aload_n dL_law_584 rfl rfl ?_
  refine Y.callD (As := []) (rest := []) dL_law_585 (c_X8_forget hD hS) zm_L_90 zv_X8_forget rfl rfl rfl (by decide) (by decide) (Nat.le_of_ble_eq_true rfl) (fun h1 hD1 hf1 => ?_)
  refine Y.aload_n dL_law_588 rfl rfl ?_
  refine Y.callM (As := []) (rest := [_]) dL_law_589 (c_X9_forget (MS_fr hM hf1) hS) zm_L_93 zv_X9_forget rfl rfl rfl (by decide) (by decide) (Nat.le_of_ble_eq_true rfl) (fun h2 hM2 hf2 => ?_)
  exact Y.icmp_eq dL_law_592 rfl (kk h2 (D_fr hD1 hf2) hM2)
theorem lk_nights (hL : L ≤ 2048) (hi : i + 4 ≤ L) {S : zS} (hD : D h S) (hM : MS h S) (hS : OkS S) (kk : ∀ h', D h' (a_nights S (xs (i + 1)) (xs (i + 2)) (xs (i + 3))).2 → MS h' (a_nights S (xs (i + 1)) (xs (i + 2)) (xs (i + 3))).2 → Y L xs 703 (LV i) [] h') : Y L xs 597 (LV i) [] h := by
  obtain ⟨⟨len, pg⟩, ⟨n, k, s, f, hr, fd, ho⟩, ⟨sz, sg, so, se⟩, kept, ⟨ihr, ik, js, ifd, iho, ⟨isz, isg, iso, ise⟩⟩, np⟩ := S
  refine Y.aload_n dL_law_597 rfl rfl ?_
  refine Y.arg (n := 1) (j := 1) dL_law_598 dL_law_599 dL_law_600 dL_law_601 dL_law_602 rfl (by omega) hL ?_
  refine Y.arg (n := 2) (j := 2) dL_law_603 dL_law_604 dL_law_605 dL_law_606 dL_law_607 rfl (by omega) hL ?_
  refine Y.arg (n := 3) (j := 3) dL_law_608 dL_law_609 dL_law_610 dL_law_611 dL_law_612 rfl (by omega) hL ?_
  refine Y.callD (As := [.int (xs (i + 1)), .int (xs (i + 2)), .int (xs (i + 3))]) (rest := []) dL_law_613 (c_X8_nights hD hS (xs (i + 1)) (xs (i + 2)) (xs (i + 3))) zm_L_94 zv_X8_nights rfl rfl rfl (by decide) (by decide) (Nat.le_of_ble_eq_true rfl) (fun h1 hD1 hf1 => ?_)
  refine Y.aload_n dL_law_616 rfl rfl ?_
  refine Y.arg (n := 1) (j := 1) dL_law_617 dL_law_618 dL_law_619 dL_law_620 dL_law_621 rfl (by omega) hL ?_
  refine Y.arg (n := 2) (j := 2) dL_law_622 dL_law_623 dL_law_624 dL_law_625 dL_law_626 rfl (by omega) hL ?_
  refine Y.arg (n := 3) (j := 3) dL_law_627 dL_law_628 dL_law_629 dL_law_630 dL_law_631 rfl (by omega) hL ?_
  refine Y.callM (As := [.int (xs (i + 1)), .int (xs (i + 2)), .int (xs (i + 3))]) (rest := [_]) dL_law_632 (c_X9_nights (MS_fr hM hf1) hS (xs (i + 1)) (xs (i + 2)) (xs (i + 3))) zm_L_97 zv_X9_nights rfl rfl rfl (by decide) (by decide) (Nat.le_of_ble_eq_true rfl) (fun h2 hM2 hf2 => ?_)
  exact Y.icmp_eq dL_law_635 rfl (kk h2 (D_fr hD1 hf2) hM2)
theorem lk_image (hL : L ≤ 2048) (hi : i + 4 ≤ L) {S : zS} (hD : D h S) (hM : MS h S) (hS : OkS S) (kk : ∀ h', D h' (a_image S).2 → MS h' (a_image S).2 → Y L xs 703 (LV i) [] h') : Y L xs 640 (LV i) [] h := by
  obtain ⟨⟨len, pg⟩, ⟨n, k, s, f, hr, fd, ho⟩, ⟨sz, sg, so, se⟩, kept, ⟨ihr, ik, js, ifd, iho, ⟨isz, isg, iso, ise⟩⟩, np⟩ := S
  refine Y.aload_n dL_law_640 rfl rfl ?_
  refine Y.callD (As := []) (rest := []) dL_law_641 (c_X8_image hD hS) zm_L_98 zv_X8_image rfl rfl rfl (by decide) (by decide) (Nat.le_of_ble_eq_true rfl) (fun h1 hD1 hf1 => ?_)
  refine Y.aload_n dL_law_644 rfl rfl ?_
  refine Y.callM (As := []) (rest := [_]) dL_law_645 (c_X9_image (MS_fr hM hf1) hS) zm_L_101 zv_X9_image rfl rfl rfl (by decide) (by decide) (Nat.le_of_ble_eq_true rfl) (fun h2 hM2 hf2 => ?_)
  exact Y.icmp_eq dL_law_648 rfl (kk h2 (D_fr hD1 hf2) hM2)
theorem lk_restore (hL : L ≤ 2048) (hi : i + 4 ≤ L) {S : zS} (hD : D h S) (hM : MS h S) (hS : OkS S) (hnp : npS S < 2 ^ 31) (kk : ∀ h', D h' (a_restore S).2 → MS h' (a_restore S).2 → Y L xs 703 (LV i) [] h') : Y L xs 653 (LV i) [] h := by
  obtain ⟨⟨len, pg⟩, ⟨n, k, s, f, hr, fd, ho⟩, ⟨sz, sg, so, se⟩, kept, ⟨ihr, ik, js, ifd, iho, ⟨isz, isg, iso, ise⟩⟩, np⟩ := S
  refine Y.aload_n dL_law_653 rfl rfl ?_
  refine Y.callD (As := []) (rest := []) dL_law_654 (c_X8_restore hD hS) zm_L_102 zv_X8_restore rfl rfl rfl (by decide) (by decide) (Nat.le_of_ble_eq_true rfl) (fun h1 hD1 hf1 => ?_)
  refine Y.aload_n dL_law_657 rfl rfl ?_
  refine Y.callM (As := []) (rest := [_]) dL_law_658 (c_X9_restore (MS_fr hM hf1) hS hnp) zm_L_105 zv_X9_restore rfl rfl rfl (by decide) (by decide) (Nat.le_of_ble_eq_true rfl) (fun h2 hM2 hf2 => ?_)
  exact Y.icmp_eq dL_law_661 rfl (kk h2 (D_fr hD1 hf2) hM2)
theorem lk_count (hL : L ≤ 2048) (hi : i + 4 ≤ L) {S : zS} (hD : D h S) (hM : MS h S) (hS : OkS S) (kk : ∀ h', D h' (a_count S (xs (i + 1))).2 → MS h' (a_count S (xs (i + 1))).2 → Y L xs 703 (LV i) [] h') : Y L xs 666 (LV i) [] h := by
  obtain ⟨⟨len, pg⟩, ⟨n, k, s, f, hr, fd, ho⟩, ⟨sz, sg, so, se⟩, kept, ⟨ihr, ik, js, ifd, iho, ⟨isz, isg, iso, ise⟩⟩, np⟩ := S
  refine Y.aload_n dL_law_666 rfl rfl ?_
  refine Y.arg (n := 1) (j := 1) dL_law_667 dL_law_668 dL_law_669 dL_law_670 dL_law_671 rfl (by omega) hL ?_
  refine Y.callD (As := [.int (xs (i + 1))]) (rest := []) dL_law_672 (c_X8_count hD hS (xs (i + 1))) zm_L_106 zv_X8_count rfl rfl rfl (by decide) (by decide) (Nat.le_of_ble_eq_true rfl) (fun h1 hD1 hf1 => ?_)
  refine Y.aload_n dL_law_675 rfl rfl ?_
  refine Y.arg (n := 1) (j := 1) dL_law_676 dL_law_677 dL_law_678 dL_law_679 dL_law_680 rfl (by omega) hL ?_
  refine Y.callM (As := [.int (xs (i + 1))]) (rest := [_]) dL_law_681 (c_X9_count (MS_fr hM hf1) hS (xs (i + 1))) zm_L_109 zv_X9_count rfl rfl rfl (by decide) (by decide) (Nat.le_of_ble_eq_true rfl) (fun h2 hM2 hf2 => ?_)
  exact Y.icmp_eq dL_law_684 rfl (kk h2 (D_fr hD1 hf2) hM2)
theorem lk_digest (hL : L ≤ 2048) (hi : i + 4 ≤ L) {S : zS} (hD : D h S) (hM : MS h S) (hS : OkS S) (kk : ∀ h', D h' (a_digest S).2 → MS h' (a_digest S).2 → Y L xs 703 (LV i) [] h') : Y L xs 689 (LV i) [] h := by
  obtain ⟨⟨len, pg⟩, ⟨n, k, s, f, hr, fd, ho⟩, ⟨sz, sg, so, se⟩, kept, ⟨ihr, ik, js, ifd, iho, ⟨isz, isg, iso, ise⟩⟩, np⟩ := S
  refine Y.aload_n dL_law_689 rfl rfl ?_
  refine Y.callD (As := []) (rest := []) dL_law_690 (c_X8_digest hD hS) zm_L_110 zv_X8_digest rfl rfl rfl (by decide) (by decide) (Nat.le_of_ble_eq_true rfl) (fun h1 hD1 hf1 => ?_)
  refine Y.aload_n dL_law_693 rfl rfl ?_
  refine Y.callM (As := []) (rest := [_]) dL_law_694 (c_X9_digest (MS_fr hM hf1) hS) zm_L_114 zv_X9_digest rfl rfl rfl (by decide) (by decide) (Nat.le_of_ble_eq_true rfl) (fun h2 hM2 hf2 => ?_)
  refine Y.lcmp dL_law_697 ?_
  exact Y.if_eq dL_law_698 rfl (fun _ => kk h2 (D_fr hD1 hf2) hM2) (fun z => absurd rfl z)
end YB
