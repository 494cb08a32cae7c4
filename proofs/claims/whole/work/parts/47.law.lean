
/-! THE LAW: its loop, case by case -/
/-- a place of the script is read; its length is read; the law ends with 1 -/
def Ld (G : GT) (L : Nat) (ys : Nat → Int) : Prop := ∀ (pc : Nat) (lv stk : List Value) (M : Mm_) (z : Int) (k : Nat), decode cL_law pc = .ok (.iaload, 1) → z = k → k < L → G (pc + 1) lv (.int (zI (ys k)) :: stk) M → G pc lv (.int (zI z) :: .ref 103 :: stk) M
def Ln (G : GT) (L : Nat) : Prop := ∀ (pc : Nat) (lv stk : List Value) (M : Mm_), decode cL_law pc = .ok (.arraylength, 1) → G (pc + 1) lv (.int (zI (L : Int)) :: stk) M → G pc lv (.ref 103 :: stk) M
def Le (G : GT) : Prop := ∀ (pc : Nat) (lv : List Value) (M : Mm_), decode cL_law pc = .ok (.ireturn, 1) → G pc lv [.int (zI 1)] M
theorem r_same {G : GT} {own : String} {cc : ByteArray} {n d : Nat} (C : Ru G own cc n d) {pc : Nat} {lv stk : List Value} {M : Mm_} {x : Int32} {off : Int} {tgt : Nat} (hd : decode cc pc = .ok (.if_icmp .eq off, 3)) (ht : (pc : Int) + off = (tgt : Int)) (kt : G tgt lv stk M) : G pc lv (.int x :: .int x :: stk) M := by
  obtain ⟨p, l, e, R, s, m, args, below, meth, c, cells, slots, Q, X, A, ⟨hx, hb, hml, hown, hts, hK, hA, hR1, hR2, hc, hs⟩, rfl⟩ := C
  intro H locs ls hP hS hl
  exact lv_icmp_eq hx hb hd ht (fun _ => kt H locs ls hP hS hl) (fun q => absurd rfl q)
theorem cmp_same (x : Int64) : lg_cmp x x = zI 0 := by
  unfold lg_cmp
  have h : ¬ x > x := by simp
  rw [if_neg h, if_pos rfl]
  rfl

set_option maxRecDepth 10000 in
set_option maxHeartbeats 1000000 in
theorem L_letter {G : GT} (C : Ru G RL cL_law 4 20) {L : Nat} {ys : Nat → Int} (hy : ∀ k, rg (ys k)) (ld : Ld G L ys) {c : Nat} {M : Mm_} (hI : INV c M) (hc : 4 * c + 4 ≤ L) (hL : L ≤ 2048) (kk : ∀ N, INV (c + 1) N → G 835 [.ref 103, .ref 0, .ref 48, .int (zI (4 * (c : Int)))] [] N) : G 160 [.ref 103, .ref 0, .ref 48, .int (zI (4 * (c : Int)))] [] M := by
  refine r_aload_n C rfl dL_law_160 ?_
  refine r_aload_n C rfl dL_law_161 ?_
  refine r_iload_n C rfl dL_law_162 ?_
  refine r_iconst C dL_law_163 ?_
  refine r_iadd C dL_law_164 ?_
  refine ld _ _ _ _ _ (4 * c + 1) dL_law_165 (by omega) (by omega) ?_
  refine r_callV C dL_law_166 vw_L_13 (P_letter hI (hy (4 * c + 1))) (by decide) rfl ly_0 rfl rfl (Nat.le_of_ble_eq_true rfl) (fun r U h => ?_)
  obtain ⟨v, rfl, h2⟩ := h
  dsimp only [Option.toList, List.cons_append, List.nil_append]
  refine r_aload_n C rfl dL_law_169 ?_
  refine r_aload_n C rfl dL_law_170 ?_
  refine r_iload_n C rfl dL_law_171 ?_
  refine r_iconst C dL_law_172 ?_
  refine r_iadd C dL_law_173 ?_
  refine ld _ _ _ _ _ (4 * c + 1) dL_law_174 (by omega) (by omega) ?_
  refine r_callV C dL_law_175 vw_L_17 h2 (by decide) rfl ly_48 rfl rfl (Nat.le_of_ble_eq_true rfl) (fun r N h => ?_)
  obtain ⟨rfl, hN⟩ := h
  dsimp only [Option.toList, List.cons_append, List.nil_append]
  exact r_same C (tgt := 835) dL_law_178 rfl (kk N hN)
set_option maxRecDepth 10000 in
set_option maxHeartbeats 1000000 in
theorem L_blank {G : GT} (C : Ru G RL cL_law 4 20) {L : Nat} {ys : Nat → Int} (hy : ∀ k, rg (ys k)) (ld : Ld G L ys) {c : Nat} {M : Mm_} (hI : INV c M) (hc : 4 * c + 4 ≤ L) (hL : L ≤ 2048) (kk : ∀ N, INV (c + 1) N → G 835 [.ref 103, .ref 0, .ref 48, .int (zI (4 * (c : Int)))] [] N) : G 183 [.ref 103, .ref 0, .ref 48, .int (zI (4 * (c : Int)))] [] M := by
  refine r_aload_n C rfl dL_law_183 ?_
  refine r_callV C dL_law_184 vw_L_18 (P_blank hI) (by decide) rfl ly_0 rfl rfl (Nat.le_of_ble_eq_true rfl) (fun r U h => ?_)
  obtain ⟨v, rfl, h2⟩ := h
  dsimp only [Option.toList, List.cons_append, List.nil_append]
  refine r_aload_n C rfl dL_law_187 ?_
  refine r_callV C dL_law_188 vw_L_22 h2 (by decide) rfl ly_48 rfl rfl (Nat.le_of_ble_eq_true rfl) (fun r N h => ?_)
  obtain ⟨rfl, hN⟩ := h
  dsimp only [Option.toList, List.cons_append, List.nil_append]
  exact r_same C (tgt := 835) dL_law_191 rfl (kk N hN)
set_option maxRecDepth 10000 in
set_option maxHeartbeats 1000000 in
theorem L_fault {G : GT} (C : Ru G RL cL_law 4 20) {L : Nat} {ys : Nat → Int} (hy : ∀ k, rg (ys k)) (ld : Ld G L ys) {c : Nat} {M : Mm_} (hI : INV c M) (hc : 4 * c + 4 ≤ L) (hL : L ≤ 2048) (kk : ∀ N, INV (c + 1) N → G 835 [.ref 103, .ref 0, .ref 48, .int (zI (4 * (c : Int)))] [] N) : G 196 [.ref 103, .ref 0, .ref 48, .int (zI (4 * (c : Int)))] [] M := by
  refine r_aload_n C rfl dL_law_196 ?_
  refine r_callV C dL_law_197 vw_L_23 (P_fault hI) (by decide) rfl ly_0 rfl rfl (Nat.le_of_ble_eq_true rfl) (fun r U h => ?_)
  obtain ⟨v, rfl, h2⟩ := h
  dsimp only [Option.toList, List.cons_append, List.nil_append]
  refine r_aload_n C rfl dL_law_200 ?_
  refine r_callV C dL_law_201 vw_L_26 h2 (by decide) rfl ly_48 rfl rfl (Nat.le_of_ble_eq_true rfl) (fun r N h => ?_)
  obtain ⟨rfl, hN⟩ := h
  dsimp only [Option.toList, List.cons_append, List.nil_append]
  exact r_same C (tgt := 835) dL_law_204 rfl (kk N hN)
set_option maxRecDepth 10000 in
set_option maxHeartbeats 1000000 in
theorem L_valley {G : GT} (C : Ru G RL cL_law 4 20) {L : Nat} {ys : Nat → Int} (hy : ∀ k, rg (ys k)) (ld : Ld G L ys) {c : Nat} {M : Mm_} (hI : INV c M) (hc : 4 * c + 4 ≤ L) (hL : L ≤ 2048) (kk : ∀ N, INV (c + 1) N → G 835 [.ref 103, .ref 0, .ref 48, .int (zI (4 * (c : Int)))] [] N) : G 209 [.ref 103, .ref 0, .ref 48, .int (zI (4 * (c : Int)))] [] M := by
  refine r_aload_n C rfl dL_law_209 ?_
  refine r_callV C dL_law_210 vw_L_27 (P_valley hI) (by decide) rfl ly_0 rfl rfl (Nat.le_of_ble_eq_true rfl) (fun r U h => ?_)
  obtain ⟨v, rfl, h2⟩ := h
  dsimp only [Option.toList, List.cons_append, List.nil_append]
  refine r_aload_n C rfl dL_law_213 ?_
  refine r_callV C dL_law_214 vw_L_30 h2 (by decide) rfl ly_48 rfl rfl (Nat.le_of_ble_eq_true rfl) (fun r N h => ?_)
  obtain ⟨rfl, hN⟩ := h
  dsimp only [Option.toList, List.cons_append, List.nil_append]
  exact r_same C (tgt := 835) dL_law_217 rfl (kk N hN)
set_option maxRecDepth 10000 in
set_option maxHeartbeats 1000000 in
theorem L_person {G : GT} (C : Ru G RL cL_law 4 20) {L : Nat} {ys : Nat → Int} (hy : ∀ k, rg (ys k)) (ld : Ld G L ys) {c : Nat} {M : Mm_} (hI : INV c M) (hc : 4 * c + 4 ≤ L) (hL : L ≤ 2048) (kk : ∀ N, INV (c + 1) N → G 835 [.ref 103, .ref 0, .ref 48, .int (zI (4 * (c : Int)))] [] N) : G 222 [.ref 103, .ref 0, .ref 48, .int (zI (4 * (c : Int)))] [] M := by
  refine r_aload_n C rfl dL_law_222 ?_
  refine r_aload_n C rfl dL_law_223 ?_
  refine r_iload_n C rfl dL_law_224 ?_
  refine r_iconst C dL_law_225 ?_
  refine r_iadd C dL_law_226 ?_
  refine ld _ _ _ _ _ (4 * c + 1) dL_law_227 (by omega) (by omega) ?_
  refine r_aload_n C rfl dL_law_228 ?_
  refine r_iload_n C rfl dL_law_229 ?_
  refine r_iconst C dL_law_230 ?_
  refine r_iadd C dL_law_231 ?_
  refine ld _ _ _ _ _ (4 * c + 2) dL_law_232 (by omega) (by omega) ?_
  refine r_callV C dL_law_233 vw_L_31 (P_person hI (hy (4 * c + 1)) (hy (4 * c + 2))) (by decide) rfl ly_0 rfl rfl (Nat.le_of_ble_eq_true rfl) (fun r U h => ?_)
  obtain ⟨v, rfl, h2⟩ := h
  dsimp only [Option.toList, List.cons_append, List.nil_append]
  refine r_aload_n C rfl dL_law_236 ?_
  refine r_aload_n C rfl dL_law_237 ?_
  refine r_iload_n C rfl dL_law_238 ?_
  refine r_iconst C dL_law_239 ?_
  refine r_iadd C dL_law_240 ?_
  refine ld _ _ _ _ _ (4 * c + 1) dL_law_241 (by omega) (by omega) ?_
  refine r_aload_n C rfl dL_law_242 ?_
  refine r_iload_n C rfl dL_law_243 ?_
  refine r_iconst C dL_law_244 ?_
  refine r_iadd C dL_law_245 ?_
  refine ld _ _ _ _ _ (4 * c + 2) dL_law_246 (by omega) (by omega) ?_
  refine r_callV C dL_law_247 vw_L_35 h2 (by decide) rfl ly_48 rfl rfl (Nat.le_of_ble_eq_true rfl) (fun r N h => ?_)
  obtain ⟨rfl, hN⟩ := h
  dsimp only [Option.toList, List.cons_append, List.nil_append]
  exact r_same C (tgt := 835) dL_law_250 rfl (kk N hN)
set_option maxRecDepth 10000 in
set_option maxHeartbeats 1000000 in
theorem L_as {G : GT} (C : Ru G RL cL_law 4 20) {L : Nat} {ys : Nat → Int} (hy : ∀ k, rg (ys k)) (ld : Ld G L ys) {c : Nat} {M : Mm_} (hI : INV c M) (hc : 4 * c + 4 ≤ L) (hL : L ≤ 2048) (kk : ∀ N, INV (c + 1) N → G 835 [.ref 103, .ref 0, .ref 48, .int (zI (4 * (c : Int)))] [] N) : G 255 [.ref 103, .ref 0, .ref 48, .int (zI (4 * (c : Int)))] [] M := by
  refine r_aload_n C rfl dL_law_255 ?_
  refine r_aload_n C rfl dL_law_256 ?_
  refine r_iload_n C rfl dL_law_257 ?_
  refine r_iconst C dL_law_258 ?_
  refine r_iadd C dL_law_259 ?_
  refine ld _ _ _ _ _ (4 * c + 1) dL_law_260 (by omega) (by omega) ?_
  refine r_aload_n C rfl dL_law_261 ?_
  refine r_iload_n C rfl dL_law_262 ?_
  refine r_iconst C dL_law_263 ?_
  refine r_iadd C dL_law_264 ?_
  refine ld _ _ _ _ _ (4 * c + 2) dL_law_265 (by omega) (by omega) ?_
  refine r_callV C dL_law_266 vw_L_36 (P_as hI (hy (4 * c + 1)) (hy (4 * c + 2))) (by decide) rfl ly_0 rfl rfl (Nat.le_of_ble_eq_true rfl) (fun r U h => ?_)
  obtain ⟨v, rfl, h2⟩ := h
  dsimp only [Option.toList, List.cons_append, List.nil_append]
  refine r_aload_n C rfl dL_law_269 ?_
  refine r_aload_n C rfl dL_law_270 ?_
  refine r_iload_n C rfl dL_law_271 ?_
  refine r_iconst C dL_law_272 ?_
  refine r_iadd C dL_law_273 ?_
  refine ld _ _ _ _ _ (4 * c + 1) dL_law_274 (by omega) (by omega) ?_
  refine r_aload_n C rfl dL_law_275 ?_
  refine r_iload_n C rfl dL_law_276 ?_
  refine r_iconst C dL_law_277 ?_
  refine r_iadd C dL_law_278 ?_
  refine ld _ _ _ _ _ (4 * c + 2) dL_law_279 (by omega) (by omega) ?_
  refine r_callV C dL_law_280 vw_L_39 h2 (by decide) rfl ly_48 rfl rfl (Nat.le_of_ble_eq_true rfl) (fun r N h => ?_)
  obtain ⟨rfl, hN⟩ := h
  dsimp only [Option.toList, List.cons_append, List.nil_append]
  exact r_same C (tgt := 835) dL_law_283 rfl (kk N hN)
set_option maxRecDepth 10000 in
set_option maxHeartbeats 1000000 in
theorem L_pail {G : GT} (C : Ru G RL cL_law 4 20) {L : Nat} {ys : Nat → Int} (hy : ∀ k, rg (ys k)) (ld : Ld G L ys) {c : Nat} {M : Mm_} (hI : INV c M) (hc : 4 * c + 4 ≤ L) (hL : L ≤ 2048) (kk : ∀ N, INV (c + 1) N → G 835 [.ref 103, .ref 0, .ref 48, .int (zI (4 * (c : Int)))] [] N) : G 288 [.ref 103, .ref 0, .ref 48, .int (zI (4 * (c : Int)))] [] M := by
  refine r_aload_n C rfl dL_law_288 ?_
  refine r_aload_n C rfl dL_law_289 ?_
  refine r_iload_n C rfl dL_law_290 ?_
  refine r_iconst C dL_law_291 ?_
  refine r_iadd C dL_law_292 ?_
  refine ld _ _ _ _ _ (4 * c + 1) dL_law_293 (by omega) (by omega) ?_
  refine r_aload_n C rfl dL_law_294 ?_
  refine r_iload_n C rfl dL_law_295 ?_
  refine r_iconst C dL_law_296 ?_
  refine r_iadd C dL_law_297 ?_
  refine ld _ _ _ _ _ (4 * c + 2) dL_law_298 (by omega) (by omega) ?_
  refine r_callV C dL_law_299 vw_L_40 (P_pail hI (hy (4 * c + 1)) (hy (4 * c + 2))) (by decide) rfl ly_0 rfl rfl (Nat.le_of_ble_eq_true rfl) (fun r U h => ?_)
  obtain ⟨v, rfl, h2⟩ := h
  dsimp only [Option.toList, List.cons_append, List.nil_append]
  refine r_aload_n C rfl dL_law_302 ?_
  refine r_aload_n C rfl dL_law_303 ?_
  refine r_iload_n C rfl dL_law_304 ?_
  refine r_iconst C dL_law_305 ?_
  refine r_iadd C dL_law_306 ?_
  refine ld _ _ _ _ _ (4 * c + 1) dL_law_307 (by omega) (by omega) ?_
  refine r_aload_n C rfl dL_law_308 ?_
  refine r_iload_n C rfl dL_law_309 ?_
  refine r_iconst C dL_law_310 ?_
  refine r_iadd C dL_law_311 ?_
  refine ld _ _ _ _ _ (4 * c + 2) dL_law_312 (by omega) (by omega) ?_
  refine r_callV C dL_law_313 vw_L_43 h2 (by decide) rfl ly_48 rfl rfl (Nat.le_of_ble_eq_true rfl) (fun r N h => ?_)
  obtain ⟨rfl, hN⟩ := h
  dsimp only [Option.toList, List.cons_append, List.nil_append]
  exact r_same C (tgt := 835) dL_law_316 rfl (kk N hN)
set_option maxRecDepth 10000 in
set_option maxHeartbeats 1000000 in
theorem L_slight {G : GT} (C : Ru G RL cL_law 4 20) {L : Nat} {ys : Nat → Int} (hy : ∀ k, rg (ys k)) (ld : Ld G L ys) {c : Nat} {M : Mm_} (hI : INV c M) (hc : 4 * c + 4 ≤ L) (hL : L ≤ 2048) (kk : ∀ N, INV (c + 1) N → G 835 [.ref 103, .ref 0, .ref 48, .int (zI (4 * (c : Int)))] [] N) : G 321 [.ref 103, .ref 0, .ref 48, .int (zI (4 * (c : Int)))] [] M := by
  refine r_aload_n C rfl dL_law_321 ?_
  refine r_aload_n C rfl dL_law_322 ?_
  refine r_iload_n C rfl dL_law_323 ?_
  refine r_iconst C dL_law_324 ?_
  refine r_iadd C dL_law_325 ?_
  refine ld _ _ _ _ _ (4 * c + 1) dL_law_326 (by omega) (by omega) ?_
  refine r_aload_n C rfl dL_law_327 ?_
  refine r_iload_n C rfl dL_law_328 ?_
  refine r_iconst C dL_law_329 ?_
  refine r_iadd C dL_law_330 ?_
  refine ld _ _ _ _ _ (4 * c + 2) dL_law_331 (by omega) (by omega) ?_
  refine r_callV C dL_law_332 vw_L_44 (P_slight hI (hy (4 * c + 1)) (hy (4 * c + 2))) (by decide) rfl ly_0 rfl rfl (Nat.le_of_ble_eq_true rfl) (fun r U h => ?_)
  obtain ⟨v, rfl, h2⟩ := h
  dsimp only [Option.toList, List.cons_append, List.nil_append]
  refine r_aload_n C rfl dL_law_335 ?_
  refine r_aload_n C rfl dL_law_336 ?_
  refine r_iload_n C rfl dL_law_337 ?_
  refine r_iconst C dL_law_338 ?_
  refine r_iadd C dL_law_339 ?_
  refine ld _ _ _ _ _ (4 * c + 1) dL_law_340 (by omega) (by omega) ?_
  refine r_aload_n C rfl dL_law_341 ?_
  refine r_iload_n C rfl dL_law_342 ?_
  refine r_iconst C dL_law_343 ?_
  refine r_iadd C dL_law_344 ?_
  refine ld _ _ _ _ _ (4 * c + 2) dL_law_345 (by omega) (by omega) ?_
  refine r_callV C dL_law_346 vw_L_47 h2 (by decide) rfl ly_48 rfl rfl (Nat.le_of_ble_eq_true rfl) (fun r N h => ?_)
  obtain ⟨rfl, hN⟩ := h
  dsimp only [Option.toList, List.cons_append, List.nil_append]
  exact r_same C (tgt := 835) dL_law_349 rfl (kk N hN)
set_option maxRecDepth 10000 in
set_option maxHeartbeats 1000000 in
theorem L_soothe {G : GT} (C : Ru G RL cL_law 4 20) {L : Nat} {ys : Nat → Int} (hy : ∀ k, rg (ys k)) (ld : Ld G L ys) {c : Nat} {M : Mm_} (hI : INV c M) (hc : 4 * c + 4 ≤ L) (hL : L ≤ 2048) (kk : ∀ N, INV (c + 1) N → G 835 [.ref 103, .ref 0, .ref 48, .int (zI (4 * (c : Int)))] [] N) : G 354 [.ref 103, .ref 0, .ref 48, .int (zI (4 * (c : Int)))] [] M := by
  refine r_aload_n C rfl dL_law_354 ?_
  refine r_aload_n C rfl dL_law_355 ?_
  refine r_iload_n C rfl dL_law_356 ?_
  refine r_iconst C dL_law_357 ?_
  refine r_iadd C dL_law_358 ?_
  refine ld _ _ _ _ _ (4 * c + 1) dL_law_359 (by omega) (by omega) ?_
  refine r_callV C dL_law_360 vw_L_48 (P_soothe hI (hy (4 * c + 1))) (by decide) rfl ly_0 rfl rfl (Nat.le_of_ble_eq_true rfl) (fun r U h => ?_)
  obtain ⟨v, rfl, h2⟩ := h
  dsimp only [Option.toList, List.cons_append, List.nil_append]
  refine r_aload_n C rfl dL_law_363 ?_
  refine r_aload_n C rfl dL_law_364 ?_
  refine r_iload_n C rfl dL_law_365 ?_
  refine r_iconst C dL_law_366 ?_
  refine r_iadd C dL_law_367 ?_
  refine ld _ _ _ _ _ (4 * c + 1) dL_law_368 (by omega) (by omega) ?_
  refine r_callV C dL_law_369 vw_L_51 h2 (by decide) rfl ly_48 rfl rfl (Nat.le_of_ble_eq_true rfl) (fun r N h => ?_)
  obtain ⟨rfl, hN⟩ := h
  dsimp only [Option.toList, List.cons_append, List.nil_append]
  exact r_same C (tgt := 835) dL_law_372 rfl (kk N hN)
set_option maxRecDepth 10000 in
set_option maxHeartbeats 1000000 in
theorem L_sit {G : GT} (C : Ru G RL cL_law 4 20) {L : Nat} {ys : Nat → Int} (hy : ∀ k, rg (ys k)) (ld : Ld G L ys) {c : Nat} {M : Mm_} (hI : INV c M) (hc : 4 * c + 4 ≤ L) (hL : L ≤ 2048) (kk : ∀ N, INV (c + 1) N → G 835 [.ref 103, .ref 0, .ref 48, .int (zI (4 * (c : Int)))] [] N) : G 377 [.ref 103, .ref 0, .ref 48, .int (zI (4 * (c : Int)))] [] M := by
  refine r_aload_n C rfl dL_law_377 ?_
  refine r_aload_n C rfl dL_law_378 ?_
  refine r_iload_n C rfl dL_law_379 ?_
  refine r_iconst C dL_law_380 ?_
  refine r_iadd C dL_law_381 ?_
  refine ld _ _ _ _ _ (4 * c + 1) dL_law_382 (by omega) (by omega) ?_
  refine r_aload_n C rfl dL_law_383 ?_
  refine r_iload_n C rfl dL_law_384 ?_
  refine r_iconst C dL_law_385 ?_
  refine r_iadd C dL_law_386 ?_
  refine ld _ _ _ _ _ (4 * c + 2) dL_law_387 (by omega) (by omega) ?_
  refine r_callV C dL_law_388 vw_L_52 (P_sit hI (hy (4 * c + 1)) (hy (4 * c + 2))) (by decide) rfl ly_0 rfl rfl (Nat.le_of_ble_eq_true rfl) (fun r U h => ?_)
  obtain ⟨v, rfl, h2⟩ := h
  dsimp only [Option.toList, List.cons_append, List.nil_append]
  refine r_aload_n C rfl dL_law_391 ?_
  refine r_aload_n C rfl dL_law_392 ?_
  refine r_iload_n C rfl dL_law_393 ?_
  refine r_iconst C dL_law_394 ?_
  refine r_iadd C dL_law_395 ?_
  refine ld _ _ _ _ _ (4 * c + 1) dL_law_396 (by omega) (by omega) ?_
  refine r_aload_n C rfl dL_law_397 ?_
  refine r_iload_n C rfl dL_law_398 ?_
  refine r_iconst C dL_law_399 ?_
  refine r_iadd C dL_law_400 ?_
  refine ld _ _ _ _ _ (4 * c + 2) dL_law_401 (by omega) (by omega) ?_
  refine r_callV C dL_law_402 vw_L_55 h2 (by decide) rfl ly_48 rfl rfl (Nat.le_of_ble_eq_true rfl) (fun r N h => ?_)
  obtain ⟨rfl, hN⟩ := h
  dsimp only [Option.toList, List.cons_append, List.nil_append]
  exact r_same C (tgt := 835) dL_law_405 rfl (kk N hN)
set_option maxRecDepth 10000 in
set_option maxHeartbeats 1000000 in
theorem L_night {G : GT} (C : Ru G RL cL_law 4 20) {L : Nat} {ys : Nat → Int} (hy : ∀ k, rg (ys k)) (ld : Ld G L ys) {c : Nat} {M : Mm_} (hI : INV c M) (hc : 4 * c + 4 ≤ L) (hL : L ≤ 2048) (kk : ∀ N, INV (c + 1) N → G 835 [.ref 103, .ref 0, .ref 48, .int (zI (4 * (c : Int)))] [] N) : G 410 [.ref 103, .ref 0, .ref 48, .int (zI (4 * (c : Int)))] [] M := by
  refine r_aload_n C rfl dL_law_410 ?_
  refine r_callV C dL_law_411 vw_L_56 (P_night hI) (by decide) rfl ly_0 rfl rfl (Nat.le_of_ble_eq_true rfl) (fun r U h => ?_)
  obtain ⟨v, rfl, h2⟩ := h
  dsimp only [Option.toList, List.cons_append, List.nil_append]
  refine r_aload_n C rfl dL_law_414 ?_
  refine r_callV C dL_law_415 vw_L_59 h2 (by decide) rfl ly_48 rfl rfl (Nat.le_of_ble_eq_true rfl) (fun r N h => ?_)
  obtain ⟨rfl, hN⟩ := h
  dsimp only [Option.toList, List.cons_append, List.nil_append]
  exact r_same C (tgt := 835) dL_law_418 rfl (kk N hN)
set_option maxRecDepth 10000 in
set_option maxHeartbeats 1000000 in
theorem L_curdle {G : GT} (C : Ru G RL cL_law 4 20) {L : Nat} {ys : Nat → Int} (hy : ∀ k, rg (ys k)) (ld : Ld G L ys) {c : Nat} {M : Mm_} (hI : INV c M) (hc : 4 * c + 4 ≤ L) (hL : L ≤ 2048) (kk : ∀ N, INV (c + 1) N → G 835 [.ref 103, .ref 0, .ref 48, .int (zI (4 * (c : Int)))] [] N) : G 423 [.ref 103, .ref 0, .ref 48, .int (zI (4 * (c : Int)))] [] M := by
  refine r_aload_n C rfl dL_law_423 ?_
  refine r_callV C dL_law_424 vw_L_60 (P_curdle hI) (by decide) rfl ly_0 rfl rfl (Nat.le_of_ble_eq_true rfl) (fun r U h => ?_)
  obtain ⟨v, rfl, h2⟩ := h
  dsimp only [Option.toList, List.cons_append, List.nil_append]
  refine r_aload_n C rfl dL_law_427 ?_
  refine r_callV C dL_law_428 vw_L_63 h2 (by decide) rfl ly_48 rfl rfl (Nat.le_of_ble_eq_true rfl) (fun r N h => ?_)
  obtain ⟨rfl, hN⟩ := h
  dsimp only [Option.toList, List.cons_append, List.nil_append]
  exact r_same C (tgt := 835) dL_law_431 rfl (kk N hN)
set_option maxRecDepth 10000 in
set_option maxHeartbeats 1000000 in
theorem L_fresh {G : GT} (C : Ru G RL cL_law 4 20) {L : Nat} {ys : Nat → Int} (hy : ∀ k, rg (ys k)) (ld : Ld G L ys) {c : Nat} {M : Mm_} (hI : INV c M) (hc : 4 * c + 4 ≤ L) (hL : L ≤ 2048) (kk : ∀ N, INV (c + 1) N → G 835 [.ref 103, .ref 0, .ref 48, .int (zI (4 * (c : Int)))] [] N) : G 436 [.ref 103, .ref 0, .ref 48, .int (zI (4 * (c : Int)))] [] M := by
  refine r_aload_n C rfl dL_law_436 ?_
  refine r_aload_n C rfl dL_law_437 ?_
  refine r_iload_n C rfl dL_law_438 ?_
  refine r_iconst C dL_law_439 ?_
  refine r_iadd C dL_law_440 ?_
  refine ld _ _ _ _ _ (4 * c + 1) dL_law_441 (by omega) (by omega) ?_
  refine r_callV C dL_law_442 vw_L_64 (P_fresh hI (hy (4 * c + 1))) (by decide) rfl ly_0 rfl rfl (Nat.le_of_ble_eq_true rfl) (fun r U h => ?_)
  obtain ⟨v, rfl, h2⟩ := h
  dsimp only [Option.toList, List.cons_append, List.nil_append]
  refine r_aload_n C rfl dL_law_445 ?_
  refine r_aload_n C rfl dL_law_446 ?_
  refine r_iload_n C rfl dL_law_447 ?_
  refine r_iconst C dL_law_448 ?_
  refine r_iadd C dL_law_449 ?_
  refine ld _ _ _ _ _ (4 * c + 1) dL_law_450 (by omega) (by omega) ?_
  refine r_callV C dL_law_451 vw_L_67 h2 (by decide) rfl ly_48 rfl rfl (Nat.le_of_ble_eq_true rfl) (fun r N h => ?_)
  obtain ⟨rfl, hN⟩ := h
  dsimp only [Option.toList, List.cons_append, List.nil_append]
  exact r_same C (tgt := 835) dL_law_454 rfl (kk N hN)
set_option maxRecDepth 10000 in
set_option maxHeartbeats 1000000 in
theorem L_force {G : GT} (C : Ru G RL cL_law 4 20) {L : Nat} {ys : Nat → Int} (hy : ∀ k, rg (ys k)) (ld : Ld G L ys) {c : Nat} {M : Mm_} (hI : INV c M) (hc : 4 * c + 4 ≤ L) (hL : L ≤ 2048) (kk : ∀ N, INV (c + 1) N → G 835 [.ref 103, .ref 0, .ref 48, .int (zI (4 * (c : Int)))] [] N) : G 459 [.ref 103, .ref 0, .ref 48, .int (zI (4 * (c : Int)))] [] M := by
  refine r_aload_n C rfl dL_law_459 ?_
  refine r_aload_n C rfl dL_law_460 ?_
  refine r_iload_n C rfl dL_law_461 ?_
  refine r_iconst C dL_law_462 ?_
  refine r_iadd C dL_law_463 ?_
  refine ld _ _ _ _ _ (4 * c + 1) dL_law_464 (by omega) (by omega) ?_
  refine r_callV C dL_law_465 vw_L_68 (P_force hI (hy (4 * c + 1))) (by decide) rfl ly_0 rfl rfl (Nat.le_of_ble_eq_true rfl) (fun r U h => ?_)
  obtain ⟨v, rfl, h2⟩ := h
  dsimp only [Option.toList, List.cons_append, List.nil_append]
  refine r_aload_n C rfl dL_law_468 ?_
  refine r_aload_n C rfl dL_law_469 ?_
  refine r_iload_n C rfl dL_law_470 ?_
  refine r_iconst C dL_law_471 ?_
  refine r_iadd C dL_law_472 ?_
  refine ld _ _ _ _ _ (4 * c + 1) dL_law_473 (by omega) (by omega) ?_
  refine r_callV C dL_law_474 vw_L_71 h2 (by decide) rfl ly_48 rfl rfl (Nat.le_of_ble_eq_true rfl) (fun r N h => ?_)
  obtain ⟨rfl, hN⟩ := h
  dsimp only [Option.toList, List.cons_append, List.nil_append]
  exact r_same C (tgt := 835) dL_law_477 rfl (kk N hN)
set_option maxRecDepth 10000 in
set_option maxHeartbeats 1000000 in
theorem L_keep {G : GT} (C : Ru G RL cL_law 4 20) {L : Nat} {ys : Nat → Int} (hy : ∀ k, rg (ys k)) (ld : Ld G L ys) {c : Nat} {M : Mm_} (hI : INV c M) (hc : 4 * c + 4 ≤ L) (hL : L ≤ 2048) (kk : ∀ N, INV (c + 1) N → G 835 [.ref 103, .ref 0, .ref 48, .int (zI (4 * (c : Int)))] [] N) : G 482 [.ref 103, .ref 0, .ref 48, .int (zI (4 * (c : Int)))] [] M := by
  refine r_aload_n C rfl dL_law_482 ?_
  refine r_aload_n C rfl dL_law_483 ?_
  refine r_iload_n C rfl dL_law_484 ?_
  refine r_iconst C dL_law_485 ?_
  refine r_iadd C dL_law_486 ?_
  refine ld _ _ _ _ _ (4 * c + 1) dL_law_487 (by omega) (by omega) ?_
  refine r_aload_n C rfl dL_law_488 ?_
  refine r_iload_n C rfl dL_law_489 ?_
  refine r_iconst C dL_law_490 ?_
  refine r_iadd C dL_law_491 ?_
  refine ld _ _ _ _ _ (4 * c + 2) dL_law_492 (by omega) (by omega) ?_
  refine r_callV C dL_law_493 vw_L_72 (P_keep hI (hy (4 * c + 1)) (hy (4 * c + 2))) (by decide) rfl ly_0 rfl rfl (Nat.le_of_ble_eq_true rfl) (fun r U h => ?_)
  obtain ⟨v, rfl, h2⟩ := h
  dsimp only [Option.toList, List.cons_append, List.nil_append]
  refine r_aload_n C rfl dL_law_496 ?_
  refine r_aload_n C rfl dL_law_497 ?_
  refine r_iload_n C rfl dL_law_498 ?_
  refine r_iconst C dL_law_499 ?_
  refine r_iadd C dL_law_500 ?_
  refine ld _ _ _ _ _ (4 * c + 1) dL_law_501 (by omega) (by omega) ?_
  refine r_aload_n C rfl dL_law_502 ?_
  refine r_iload_n C rfl dL_law_503 ?_
  refine r_iconst C dL_law_504 ?_
  refine r_iadd C dL_law_505 ?_
  refine ld _ _ _ _ _ (4 * c + 2) dL_law_506 (by omega) (by omega) ?_
  refine r_callV C dL_law_507 vw_L_75 h2 (by decide) rfl ly_48 rfl rfl (Nat.le_of_ble_eq_true rfl) (fun r N h => ?_)
  obtain ⟨rfl, hN⟩ := h
  dsimp only [Option.toList, List.cons_append, List.nil_append]
  exact r_same C (tgt := 835) dL_law_510 rfl (kk N hN)
set_option maxRecDepth 10000 in
set_option maxHeartbeats 1000000 in
theorem L_pour {G : GT} (C : Ru G RL cL_law 4 20) {L : Nat} {ys : Nat → Int} (hy : ∀ k, rg (ys k)) (ld : Ld G L ys) {c : Nat} {M : Mm_} (hI : INV c M) (hc : 4 * c + 4 ≤ L) (hL : L ≤ 2048) (kk : ∀ N, INV (c + 1) N → G 835 [.ref 103, .ref 0, .ref 48, .int (zI (4 * (c : Int)))] [] N) : G 515 [.ref 103, .ref 0, .ref 48, .int (zI (4 * (c : Int)))] [] M := by
  refine r_aload_n C rfl dL_law_515 ?_
  refine r_aload_n C rfl dL_law_516 ?_
  refine r_iload_n C rfl dL_law_517 ?_
  refine r_iconst C dL_law_518 ?_
  refine r_iadd C dL_law_519 ?_
  refine ld _ _ _ _ _ (4 * c + 1) dL_law_520 (by omega) (by omega) ?_
  refine r_aload_n C rfl dL_law_521 ?_
  refine r_iload_n C rfl dL_law_522 ?_
  refine r_iconst C dL_law_523 ?_
  refine r_iadd C dL_law_524 ?_
  refine ld _ _ _ _ _ (4 * c + 2) dL_law_525 (by omega) (by omega) ?_
  refine r_callV C dL_law_526 vw_L_76 (P_pour hI (hy (4 * c + 1)) (hy (4 * c + 2))) (by decide) rfl ly_0 rfl rfl (Nat.le_of_ble_eq_true rfl) (fun r U h => ?_)
  obtain ⟨v, rfl, h2⟩ := h
  dsimp only [Option.toList, List.cons_append, List.nil_append]
  refine r_aload_n C rfl dL_law_529 ?_
  refine r_aload_n C rfl dL_law_530 ?_
  refine r_iload_n C rfl dL_law_531 ?_
  refine r_iconst C dL_law_532 ?_
  refine r_iadd C dL_law_533 ?_
  refine ld _ _ _ _ _ (4 * c + 1) dL_law_534 (by omega) (by omega) ?_
  refine r_aload_n C rfl dL_law_535 ?_
  refine r_iload_n C rfl dL_law_536 ?_
  refine r_iconst C dL_law_537 ?_
  refine r_iadd C dL_law_538 ?_
  refine ld _ _ _ _ _ (4 * c + 2) dL_law_539 (by omega) (by omega) ?_
  refine r_callV C dL_law_540 vw_L_79 h2 (by decide) rfl ly_48 rfl rfl (Nat.le_of_ble_eq_true rfl) (fun r N h => ?_)
  obtain ⟨rfl, hN⟩ := h
  dsimp only [Option.toList, List.cons_append, List.nil_append]
  exact r_same C (tgt := 835) dL_law_543 rfl (kk N hN)
set_option maxRecDepth 10000 in
set_option maxHeartbeats 1000000 in
theorem L_bottle {G : GT} (C : Ru G RL cL_law 4 20) {L : Nat} {ys : Nat → Int} (hy : ∀ k, rg (ys k)) (ld : Ld G L ys) {c : Nat} {M : Mm_} (hI : INV c M) (hc : 4 * c + 4 ≤ L) (hL : L ≤ 2048) (kk : ∀ N, INV (c + 1) N → G 835 [.ref 103, .ref 0, .ref 48, .int (zI (4 * (c : Int)))] [] N) : G 548 [.ref 103, .ref 0, .ref 48, .int (zI (4 * (c : Int)))] [] M := by
  refine r_aload_n C rfl dL_law_548 ?_
  refine r_aload_n C rfl dL_law_549 ?_
  refine r_iload_n C rfl dL_law_550 ?_
  refine r_iconst C dL_law_551 ?_
  refine r_iadd C dL_law_552 ?_
  refine ld _ _ _ _ _ (4 * c + 1) dL_law_553 (by omega) (by omega) ?_
  refine r_callV C dL_law_554 vw_L_80 (P_bottle hI (hy (4 * c + 1))) (by decide) rfl ly_0 rfl rfl (Nat.le_of_ble_eq_true rfl) (fun r U h => ?_)
  obtain ⟨v, rfl, h2⟩ := h
  dsimp only [Option.toList, List.cons_append, List.nil_append]
  refine r_aload_n C rfl dL_law_557 ?_
  refine r_aload_n C rfl dL_law_558 ?_
  refine r_iload_n C rfl dL_law_559 ?_
  refine r_iconst C dL_law_560 ?_
  refine r_iadd C dL_law_561 ?_
  refine ld _ _ _ _ _ (4 * c + 1) dL_law_562 (by omega) (by omega) ?_
  refine r_callV C dL_law_563 vw_L_83 h2 (by decide) rfl ly_48 rfl rfl (Nat.le_of_ble_eq_true rfl) (fun r N h => ?_)
  obtain ⟨rfl, hN⟩ := h
  dsimp only [Option.toList, List.cons_append, List.nil_append]
  exact r_same C (tgt := 835) dL_law_566 rfl (kk N hN)
set_option maxRecDepth 10000 in
set_option maxHeartbeats 1000000 in
theorem L_would {G : GT} (C : Ru G RL cL_law 4 20) {L : Nat} {ys : Nat → Int} (hy : ∀ k, rg (ys k)) (ld : Ld G L ys) {c : Nat} {M : Mm_} (hI : INV c M) (hc : 4 * c + 4 ≤ L) (hL : L ≤ 2048) (kk : ∀ N, INV (c + 1) N → G 835 [.ref 103, .ref 0, .ref 48, .int (zI (4 * (c : Int)))] [] N) : G 571 [.ref 103, .ref 0, .ref 48, .int (zI (4 * (c : Int)))] [] M := by
  refine r_aload_n C rfl dL_law_571 ?_
  refine r_callV C dL_law_572 vw_L_84 (P_would hI) (by decide) rfl ly_0 rfl rfl (Nat.le_of_ble_eq_true rfl) (fun r U h => ?_)
  obtain ⟨v, rfl, h2⟩ := h
  dsimp only [Option.toList, List.cons_append, List.nil_append]
  refine r_aload_n C rfl dL_law_575 ?_
  refine r_callV C dL_law_576 vw_L_87 h2 (by decide) rfl ly_48 rfl rfl (Nat.le_of_ble_eq_true rfl) (fun r N h => ?_)
  obtain ⟨rfl, hN⟩ := h
  dsimp only [Option.toList, List.cons_append, List.nil_append]
  exact r_same C (tgt := 835) dL_law_579 rfl (kk N hN)
set_option maxRecDepth 10000 in
set_option maxHeartbeats 1000000 in
theorem L_few {G : GT} (C : Ru G RL cL_law 4 20) {L : Nat} {ys : Nat → Int} (hy : ∀ k, rg (ys k)) (ld : Ld G L ys) {c : Nat} {M : Mm_} (hI : INV c M) (hc : 4 * c + 4 ≤ L) (hL : L ≤ 2048) (kk : ∀ N, INV (c + 1) N → G 835 [.ref 103, .ref 0, .ref 48, .int (zI (4 * (c : Int)))] [] N) : G 584 [.ref 103, .ref 0, .ref 48, .int (zI (4 * (c : Int)))] [] M := by
  refine r_aload_n C rfl dL_law_584 ?_
  refine r_aload_n C rfl dL_law_585 ?_
  refine r_iload_n C rfl dL_law_586 ?_
  refine r_iconst C dL_law_587 ?_
  refine r_iadd C dL_law_588 ?_
  refine ld _ _ _ _ _ (4 * c + 1) dL_law_589 (by omega) (by omega) ?_
  refine r_aload_n C rfl dL_law_590 ?_
  refine r_iload_n C rfl dL_law_591 ?_
  refine r_iconst C dL_law_592 ?_
  refine r_iadd C dL_law_593 ?_
  refine ld _ _ _ _ _ (4 * c + 2) dL_law_594 (by omega) (by omega) ?_
  refine r_callV C dL_law_595 vw_L_88 (P_few hI (hy (4 * c + 1)) (hy (4 * c + 2))) (by decide) rfl ly_0 rfl rfl (Nat.le_of_ble_eq_true rfl) (fun r U h => ?_)
  obtain ⟨v, rfl, h2⟩ := h
  dsimp only [Option.toList, List.cons_append, List.nil_append]
  refine r_aload_n C rfl dL_law_598 ?_
  refine r_aload_n C rfl dL_law_599 ?_
  refine r_iload_n C rfl dL_law_600 ?_
  refine r_iconst C dL_law_601 ?_
  refine r_iadd C dL_law_602 ?_
  refine ld _ _ _ _ _ (4 * c + 1) dL_law_603 (by omega) (by omega) ?_
  refine r_aload_n C rfl dL_law_604 ?_
  refine r_iload_n C rfl dL_law_605 ?_
  refine r_iconst C dL_law_606 ?_
  refine r_iadd C dL_law_607 ?_
  refine ld _ _ _ _ _ (4 * c + 2) dL_law_608 (by omega) (by omega) ?_
  refine r_callV C dL_law_609 vw_L_91 h2 (by decide) rfl ly_48 rfl rfl (Nat.le_of_ble_eq_true rfl) (fun r N h => ?_)
  obtain ⟨rfl, hN⟩ := h
  dsimp only [Option.toList, List.cons_append, List.nil_append]
  exact r_same C (tgt := 835) dL_law_612 rfl (kk N hN)
set_option maxRecDepth 10000 in
set_option maxHeartbeats 1000000 in
theorem L_week {G : GT} (C : Ru G RL cL_law 4 20) {L : Nat} {ys : Nat → Int} (hy : ∀ k, rg (ys k)) (ld : Ld G L ys) {c : Nat} {M : Mm_} (hI : INV c M) (hc : 4 * c + 4 ≤ L) (hL : L ≤ 2048) (kk : ∀ N, INV (c + 1) N → G 835 [.ref 103, .ref 0, .ref 48, .int (zI (4 * (c : Int)))] [] N) : G 617 [.ref 103, .ref 0, .ref 48, .int (zI (4 * (c : Int)))] [] M := by
  refine r_aload_n C rfl dL_law_617 ?_
  refine r_aload_n C rfl dL_law_618 ?_
  refine r_iload_n C rfl dL_law_619 ?_
  refine r_iconst C dL_law_620 ?_
  refine r_iadd C dL_law_621 ?_
  refine ld _ _ _ _ _ (4 * c + 1) dL_law_622 (by omega) (by omega) ?_
  refine r_aload_n C rfl dL_law_623 ?_
  refine r_iload_n C rfl dL_law_624 ?_
  refine r_iconst C dL_law_625 ?_
  refine r_iadd C dL_law_626 ?_
  refine ld _ _ _ _ _ (4 * c + 2) dL_law_627 (by omega) (by omega) ?_
  refine r_callV C dL_law_628 vw_L_92 (P_week hI (hy (4 * c + 1)) (hy (4 * c + 2))) (by decide) rfl ly_0 rfl rfl (Nat.le_of_ble_eq_true rfl) (fun r U h => ?_)
  obtain ⟨v, rfl, h2⟩ := h
  dsimp only [Option.toList, List.cons_append, List.nil_append]
  refine r_aload_n C rfl dL_law_631 ?_
  refine r_aload_n C rfl dL_law_632 ?_
  refine r_iload_n C rfl dL_law_633 ?_
  refine r_iconst C dL_law_634 ?_
  refine r_iadd C dL_law_635 ?_
  refine ld _ _ _ _ _ (4 * c + 1) dL_law_636 (by omega) (by omega) ?_
  refine r_aload_n C rfl dL_law_637 ?_
  refine r_iload_n C rfl dL_law_638 ?_
  refine r_iconst C dL_law_639 ?_
  refine r_iadd C dL_law_640 ?_
  refine ld _ _ _ _ _ (4 * c + 2) dL_law_641 (by omega) (by omega) ?_
  refine r_callV C dL_law_642 vw_L_95 h2 (by decide) rfl ly_48 rfl rfl (Nat.le_of_ble_eq_true rfl) (fun r N h => ?_)
  obtain ⟨rfl, hN⟩ := h
  dsimp only [Option.toList, List.cons_append, List.nil_append]
  exact r_same C (tgt := 835) dL_law_645 rfl (kk N hN)
set_option maxRecDepth 10000 in
set_option maxHeartbeats 1000000 in
theorem L_who {G : GT} (C : Ru G RL cL_law 4 20) {L : Nat} {ys : Nat → Int} (hy : ∀ k, rg (ys k)) (ld : Ld G L ys) {c : Nat} {M : Mm_} (hI : INV c M) (hc : 4 * c + 4 ≤ L) (hL : L ≤ 2048) (kk : ∀ N, INV (c + 1) N → G 835 [.ref 103, .ref 0, .ref 48, .int (zI (4 * (c : Int)))] [] N) : G 650 [.ref 103, .ref 0, .ref 48, .int (zI (4 * (c : Int)))] [] M := by
  refine r_aload_n C rfl dL_law_650 ?_
  refine r_aload_n C rfl dL_law_651 ?_
  refine r_iload_n C rfl dL_law_652 ?_
  refine r_iconst C dL_law_653 ?_
  refine r_iadd C dL_law_654 ?_
  refine ld _ _ _ _ _ (4 * c + 1) dL_law_655 (by omega) (by omega) ?_
  refine r_callV C dL_law_656 vw_L_96 (P_who hI (hy (4 * c + 1))) (by decide) rfl ly_0 rfl rfl (Nat.le_of_ble_eq_true rfl) (fun r U h => ?_)
  obtain ⟨v, rfl, h2⟩ := h
  dsimp only [Option.toList, List.cons_append, List.nil_append]
  refine r_aload_n C rfl dL_law_659 ?_
  refine r_aload_n C rfl dL_law_660 ?_
  refine r_iload_n C rfl dL_law_661 ?_
  refine r_iconst C dL_law_662 ?_
  refine r_iadd C dL_law_663 ?_
  refine ld _ _ _ _ _ (4 * c + 1) dL_law_664 (by omega) (by omega) ?_
  refine r_callV C dL_law_665 vw_L_99 h2 (by decide) rfl ly_48 rfl rfl (Nat.le_of_ble_eq_true rfl) (fun r N h => ?_)
  obtain ⟨rfl, hN⟩ := h
  dsimp only [Option.toList, List.cons_append, List.nil_append]
  exact r_same C (tgt := 835) dL_law_668 rfl (kk N hN)
set_option maxRecDepth 10000 in
set_option maxHeartbeats 1000000 in
theorem L_see {G : GT} (C : Ru G RL cL_law 4 20) {L : Nat} {ys : Nat → Int} (hy : ∀ k, rg (ys k)) (ld : Ld G L ys) {c : Nat} {M : Mm_} (hI : INV c M) (hc : 4 * c + 4 ≤ L) (hL : L ≤ 2048) (kk : ∀ N, INV (c + 1) N → G 835 [.ref 103, .ref 0, .ref 48, .int (zI (4 * (c : Int)))] [] N) : G 673 [.ref 103, .ref 0, .ref 48, .int (zI (4 * (c : Int)))] [] M := by
  refine r_aload_n C rfl dL_law_673 ?_
  refine r_aload_n C rfl dL_law_674 ?_
  refine r_iload_n C rfl dL_law_675 ?_
  refine r_iconst C dL_law_676 ?_
  refine r_iadd C dL_law_677 ?_
  refine ld _ _ _ _ _ (4 * c + 1) dL_law_678 (by omega) (by omega) ?_
  refine r_aload_n C rfl dL_law_679 ?_
  refine r_iload_n C rfl dL_law_680 ?_
  refine r_iconst C dL_law_681 ?_
  refine r_iadd C dL_law_682 ?_
  refine ld _ _ _ _ _ (4 * c + 2) dL_law_683 (by omega) (by omega) ?_
  refine r_aload_n C rfl dL_law_684 ?_
  refine r_iload_n C rfl dL_law_685 ?_
  refine r_iconst C dL_law_686 ?_
  refine r_iadd C dL_law_687 ?_
  refine ld _ _ _ _ _ (4 * c + 3) dL_law_688 (by omega) (by omega) ?_
  refine r_callV C dL_law_689 vw_L_100 (P_see hI (hy (4 * c + 1)) (hy (4 * c + 2)) (hy (4 * c + 3))) (by decide) rfl ly_0 rfl rfl (Nat.le_of_ble_eq_true rfl) (fun r U h => ?_)
  obtain ⟨v, rfl, h2⟩ := h
  dsimp only [Option.toList, List.cons_append, List.nil_append]
  refine r_aload_n C rfl dL_law_692 ?_
  refine r_aload_n C rfl dL_law_693 ?_
  refine r_iload_n C rfl dL_law_694 ?_
  refine r_iconst C dL_law_695 ?_
  refine r_iadd C dL_law_696 ?_
  refine ld _ _ _ _ _ (4 * c + 1) dL_law_697 (by omega) (by omega) ?_
  refine r_aload_n C rfl dL_law_698 ?_
  refine r_iload_n C rfl dL_law_699 ?_
  refine r_iconst C dL_law_700 ?_
  refine r_iadd C dL_law_701 ?_
  refine ld _ _ _ _ _ (4 * c + 2) dL_law_702 (by omega) (by omega) ?_
  refine r_aload_n C rfl dL_law_703 ?_
  refine r_iload_n C rfl dL_law_704 ?_
  refine r_iconst C dL_law_705 ?_
  refine r_iadd C dL_law_706 ?_
  refine ld _ _ _ _ _ (4 * c + 3) dL_law_707 (by omega) (by omega) ?_
  refine r_callV C dL_law_708 vw_L_104 h2 (by decide) rfl ly_48 rfl rfl (Nat.le_of_ble_eq_true rfl) (fun r N h => ?_)
  obtain ⟨rfl, hN⟩ := h
  dsimp only [Option.toList, List.cons_append, List.nil_append]
  exact r_same C (tgt := 835) dL_law_711 rfl (kk N hN)
set_option maxRecDepth 10000 in
set_option maxHeartbeats 1000000 in
theorem L_forget {G : GT} (C : Ru G RL cL_law 4 20) {L : Nat} {ys : Nat → Int} (hy : ∀ k, rg (ys k)) (ld : Ld G L ys) {c : Nat} {M : Mm_} (hI : INV c M) (hc : 4 * c + 4 ≤ L) (hL : L ≤ 2048) (kk : ∀ N, INV (c + 1) N → G 835 [.ref 103, .ref 0, .ref 48, .int (zI (4 * (c : Int)))] [] N) : G 716 [.ref 103, .ref 0, .ref 48, .int (zI (4 * (c : Int)))] [] M := by
  refine r_aload_n C rfl dL_law_716 ?_
  refine r_callV C dL_law_717 vw_L_105 (P_forget hI) (by decide) rfl ly_0 rfl rfl (Nat.le_of_ble_eq_true rfl) (fun r U h => ?_)
  obtain ⟨v, rfl, h2⟩ := h
  dsimp only [Option.toList, List.cons_append, List.nil_append]
  refine r_aload_n C rfl dL_law_720 ?_
  refine r_callV C dL_law_721 vw_L_108 h2 (by decide) rfl ly_48 rfl rfl (Nat.le_of_ble_eq_true rfl) (fun r N h => ?_)
  obtain ⟨rfl, hN⟩ := h
  dsimp only [Option.toList, List.cons_append, List.nil_append]
  exact r_same C (tgt := 835) dL_law_724 rfl (kk N hN)
set_option maxRecDepth 10000 in
set_option maxHeartbeats 1000000 in
theorem L_weeks {G : GT} (C : Ru G RL cL_law 4 20) {L : Nat} {ys : Nat → Int} (hy : ∀ k, rg (ys k)) (ld : Ld G L ys) {c : Nat} {M : Mm_} (hI : INV c M) (hc : 4 * c + 4 ≤ L) (hL : L ≤ 2048) (kk : ∀ N, INV (c + 1) N → G 835 [.ref 103, .ref 0, .ref 48, .int (zI (4 * (c : Int)))] [] N) : G 729 [.ref 103, .ref 0, .ref 48, .int (zI (4 * (c : Int)))] [] M := by
  refine r_aload_n C rfl dL_law_729 ?_
  refine r_aload_n C rfl dL_law_730 ?_
  refine r_iload_n C rfl dL_law_731 ?_
  refine r_iconst C dL_law_732 ?_
  refine r_iadd C dL_law_733 ?_
  refine ld _ _ _ _ _ (4 * c + 1) dL_law_734 (by omega) (by omega) ?_
  refine r_aload_n C rfl dL_law_735 ?_
  refine r_iload_n C rfl dL_law_736 ?_
  refine r_iconst C dL_law_737 ?_
  refine r_iadd C dL_law_738 ?_
  refine ld _ _ _ _ _ (4 * c + 2) dL_law_739 (by omega) (by omega) ?_
  refine r_aload_n C rfl dL_law_740 ?_
  refine r_iload_n C rfl dL_law_741 ?_
  refine r_iconst C dL_law_742 ?_
  refine r_iadd C dL_law_743 ?_
  refine ld _ _ _ _ _ (4 * c + 3) dL_law_744 (by omega) (by omega) ?_
  refine r_callV C dL_law_745 vw_L_109 (P_weeks hI (hy (4 * c + 1)) (hy (4 * c + 2)) (hy (4 * c + 3))) (by decide) rfl ly_0 rfl rfl (Nat.le_of_ble_eq_true rfl) (fun r U h => ?_)
  obtain ⟨v, rfl, h2⟩ := h
  dsimp only [Option.toList, List.cons_append, List.nil_append]
  refine r_aload_n C rfl dL_law_748 ?_
  refine r_aload_n C rfl dL_law_749 ?_
  refine r_iload_n C rfl dL_law_750 ?_
  refine r_iconst C dL_law_751 ?_
  refine r_iadd C dL_law_752 ?_
  refine ld _ _ _ _ _ (4 * c + 1) dL_law_753 (by omega) (by omega) ?_
  refine r_aload_n C rfl dL_law_754 ?_
  refine r_iload_n C rfl dL_law_755 ?_
  refine r_iconst C dL_law_756 ?_
  refine r_iadd C dL_law_757 ?_
  refine ld _ _ _ _ _ (4 * c + 2) dL_law_758 (by omega) (by omega) ?_
  refine r_aload_n C rfl dL_law_759 ?_
  refine r_iload_n C rfl dL_law_760 ?_
  refine r_iconst C dL_law_761 ?_
  refine r_iadd C dL_law_762 ?_
  refine ld _ _ _ _ _ (4 * c + 3) dL_law_763 (by omega) (by omega) ?_
  refine r_callV C dL_law_764 vw_L_112 h2 (by decide) rfl ly_48 rfl rfl (Nat.le_of_ble_eq_true rfl) (fun r N h => ?_)
  obtain ⟨rfl, hN⟩ := h
  dsimp only [Option.toList, List.cons_append, List.nil_append]
  exact r_same C (tgt := 835) dL_law_767 rfl (kk N hN)
set_option maxRecDepth 10000 in
set_option maxHeartbeats 1000000 in
theorem L_image {G : GT} (C : Ru G RL cL_law 4 20) {L : Nat} {ys : Nat → Int} (hy : ∀ k, rg (ys k)) (ld : Ld G L ys) {c : Nat} {M : Mm_} (hI : INV c M) (hc : 4 * c + 4 ≤ L) (hL : L ≤ 2048) (kk : ∀ N, INV (c + 1) N → G 835 [.ref 103, .ref 0, .ref 48, .int (zI (4 * (c : Int)))] [] N) : G 772 [.ref 103, .ref 0, .ref 48, .int (zI (4 * (c : Int)))] [] M := by
  refine r_aload_n C rfl dL_law_772 ?_
  refine r_callV C dL_law_773 vw_L_113 (P_image hI) (by decide) rfl ly_0 rfl rfl (Nat.le_of_ble_eq_true rfl) (fun r U h => ?_)
  obtain ⟨v, rfl, h2⟩ := h
  dsimp only [Option.toList, List.cons_append, List.nil_append]
  refine r_aload_n C rfl dL_law_776 ?_
  refine r_callV C dL_law_777 vw_L_116 h2 (by decide) rfl ly_48 rfl rfl (Nat.le_of_ble_eq_true rfl) (fun r N h => ?_)
  obtain ⟨rfl, hN⟩ := h
  dsimp only [Option.toList, List.cons_append, List.nil_append]
  exact r_same C (tgt := 835) dL_law_780 rfl (kk N hN)
set_option maxRecDepth 10000 in
set_option maxHeartbeats 1000000 in
theorem L_restore {G : GT} (C : Ru G RL cL_law 4 20) {L : Nat} {ys : Nat → Int} (hy : ∀ k, rg (ys k)) (ld : Ld G L ys) {c : Nat} {M : Mm_} (hI : INV c M) (hc : 4 * c + 4 ≤ L) (hL : L ≤ 2048) (kk : ∀ N, INV (c + 1) N → G 835 [.ref 103, .ref 0, .ref 48, .int (zI (4 * (c : Int)))] [] N) : G 785 [.ref 103, .ref 0, .ref 48, .int (zI (4 * (c : Int)))] [] M := by
  refine r_aload_n C rfl dL_law_785 ?_
  refine r_callV C dL_law_786 vw_L_117 (P_restore hI (by omega)) (by decide) rfl ly_0 rfl rfl (Nat.le_of_ble_eq_true rfl) (fun r U h => ?_)
  obtain ⟨v, rfl, h2⟩ := h
  dsimp only [Option.toList, List.cons_append, List.nil_append]
  refine r_aload_n C rfl dL_law_789 ?_
  refine r_callV C dL_law_790 vw_L_120 h2 (by decide) rfl ly_48 rfl rfl (Nat.le_of_ble_eq_true rfl) (fun r N h => ?_)
  obtain ⟨rfl, hN⟩ := h
  dsimp only [Option.toList, List.cons_append, List.nil_append]
  exact r_same C (tgt := 835) dL_law_793 rfl (kk N hN)
set_option maxRecDepth 10000 in
set_option maxHeartbeats 1000000 in
theorem L_count {G : GT} (C : Ru G RL cL_law 4 20) {L : Nat} {ys : Nat → Int} (hy : ∀ k, rg (ys k)) (ld : Ld G L ys) {c : Nat} {M : Mm_} (hI : INV c M) (hc : 4 * c + 4 ≤ L) (hL : L ≤ 2048) (kk : ∀ N, INV (c + 1) N → G 835 [.ref 103, .ref 0, .ref 48, .int (zI (4 * (c : Int)))] [] N) : G 798 [.ref 103, .ref 0, .ref 48, .int (zI (4 * (c : Int)))] [] M := by
  refine r_aload_n C rfl dL_law_798 ?_
  refine r_aload_n C rfl dL_law_799 ?_
  refine r_iload_n C rfl dL_law_800 ?_
  refine r_iconst C dL_law_801 ?_
  refine r_iadd C dL_law_802 ?_
  refine ld _ _ _ _ _ (4 * c + 1) dL_law_803 (by omega) (by omega) ?_
  refine r_callV C dL_law_804 vw_L_121 (P_count hI (hy (4 * c + 1))) (by decide) rfl ly_0 rfl rfl (Nat.le_of_ble_eq_true rfl) (fun r U h => ?_)
  obtain ⟨v, rfl, h2⟩ := h
  dsimp only [Option.toList, List.cons_append, List.nil_append]
  refine r_aload_n C rfl dL_law_807 ?_
  refine r_aload_n C rfl dL_law_808 ?_
  refine r_iload_n C rfl dL_law_809 ?_
  refine r_iconst C dL_law_810 ?_
  refine r_iadd C dL_law_811 ?_
  refine ld _ _ _ _ _ (4 * c + 1) dL_law_812 (by omega) (by omega) ?_
  refine r_callV C dL_law_813 vw_L_124 h2 (by decide) rfl ly_48 rfl rfl (Nat.le_of_ble_eq_true rfl) (fun r N h => ?_)
  obtain ⟨rfl, hN⟩ := h
  dsimp only [Option.toList, List.cons_append, List.nil_append]
  exact r_same C (tgt := 835) dL_law_816 rfl (kk N hN)
set_option maxRecDepth 10000 in
set_option maxHeartbeats 1000000 in
theorem L_digest {G : GT} (C : Ru G RL cL_law 4 20) {L : Nat} {ys : Nat → Int} (hy : ∀ k, rg (ys k)) (ld : Ld G L ys) {c : Nat} {M : Mm_} (hI : INV c M) (hc : 4 * c + 4 ≤ L) (hL : L ≤ 2048) (kk : ∀ N, INV (c + 1) N → G 835 [.ref 103, .ref 0, .ref 48, .int (zI (4 * (c : Int)))] [] N) : G 821 [.ref 103, .ref 0, .ref 48, .int (zI (4 * (c : Int)))] [] M := by
  refine r_aload_n C rfl dL_law_821 ?_
  refine r_callV C dL_law_822 vw_L_125 (P_digest hI) (by decide) rfl ly_0 rfl rfl (Nat.le_of_ble_eq_true rfl) (fun r U h => ?_)
  obtain ⟨v, rfl, h2⟩ := h
  dsimp only [Option.toList, List.cons_append, List.nil_append]
  refine r_aload_n C rfl dL_law_825 ?_
  refine r_callV C dL_law_826 vw_L_129 h2 (by decide) rfl ly_48 rfl rfl (Nat.le_of_ble_eq_true rfl) (fun r N h => ?_)
  obtain ⟨rfl, hN⟩ := h
  dsimp only [Option.toList, List.cons_append, List.nil_append]
  refine r_lcmp C dL_law_829 ?_
  rw [cmp_same]
  exact r_if_eq C (tgt := 835) dL_law_830 rfl rg0 (fun _ => kk N hN) (fun h => absurd rfl h)
set_option maxRecDepth 10000 in
set_option maxHeartbeats 1000000 in
theorem L_turn {G : GT} (C : Ru G RL cL_law 4 20) {L : Nat} {ys : Nat → Int} (hy : ∀ k, rg (ys k)) (ld : Ld G L ys) {c : Nat} {M : Mm_} (hI : INV c M) (h4 : 4 * c + 4 ≤ L) (hL : L ≤ 2048) (kk : ∀ N, INV (c + 1) N → G 835 [.ref 103, .ref 0, .ref 48, .int (zI (4 * (c : Int)))] [] N) {j : Nat} (hj : j < 32) : G 32 [.ref 103, .ref 0, .ref 48, .int (zI (4 * (c : Int)))] [.int (zI (j : Int))] M := by
  by_cases hout : (j : Int) < 0 ∨ 27 < (j : Int)
  · exact r_tout C (tgt := 835) dL_law_32 (rgm (by omega) (by omega)) hout rfl (kk M (INV_up hI))
  · have hj2 : j < 28 := by omega
    clear hout hj
    rcases (show j = 0 ∨ j = 1 ∨ j = 2 ∨ j = 3 ∨ j = 4 ∨ j = 5 ∨ j = 6 ∨ j = 7 ∨ j = 8 ∨ j = 9 ∨ j = 10 ∨ j = 11 ∨ j = 12 ∨ j = 13 ∨ j = 14 ∨ j = 15 ∨ j = 16 ∨ j = 17 ∨ j = 18 ∨ j = 19 ∨ j = 20 ∨ j = 21 ∨ j = 22 ∨ j = 23 ∨ j = 24 ∨ j = 25 ∨ j = 26 ∨ j = 27 by omega) with rfl | rfl | rfl | rfl | rfl | rfl | rfl | rfl | rfl | rfl | rfl | rfl | rfl | rfl | rfl | rfl | rfl | rfl | rfl | rfl | rfl | rfl | rfl | rfl | rfl | rfl | rfl | rfl
    · exact r_tin C (tgt := 160) dL_law_32 (rgm (by omega) (by omega)) (by omega) (by omega) (off := 128) rfl rfl (L_letter C hy ld hI h4 hL kk)
    · exact r_tin C (tgt := 183) dL_law_32 (rgm (by omega) (by omega)) (by omega) (by omega) (off := 151) rfl rfl (L_blank C hy ld hI h4 hL kk)
    · exact r_tin C (tgt := 196) dL_law_32 (rgm (by omega) (by omega)) (by omega) (by omega) (off := 164) rfl rfl (L_fault C hy ld hI h4 hL kk)
    · exact r_tin C (tgt := 209) dL_law_32 (rgm (by omega) (by omega)) (by omega) (by omega) (off := 177) rfl rfl (L_valley C hy ld hI h4 hL kk)
    · exact r_tin C (tgt := 222) dL_law_32 (rgm (by omega) (by omega)) (by omega) (by omega) (off := 190) rfl rfl (L_person C hy ld hI h4 hL kk)
    · exact r_tin C (tgt := 255) dL_law_32 (rgm (by omega) (by omega)) (by omega) (by omega) (off := 223) rfl rfl (L_as C hy ld hI h4 hL kk)
    · exact r_tin C (tgt := 288) dL_law_32 (rgm (by omega) (by omega)) (by omega) (by omega) (off := 256) rfl rfl (L_pail C hy ld hI h4 hL kk)
    · exact r_tin C (tgt := 321) dL_law_32 (rgm (by omega) (by omega)) (by omega) (by omega) (off := 289) rfl rfl (L_slight C hy ld hI h4 hL kk)
    · exact r_tin C (tgt := 354) dL_law_32 (rgm (by omega) (by omega)) (by omega) (by omega) (off := 322) rfl rfl (L_soothe C hy ld hI h4 hL kk)
    · exact r_tin C (tgt := 377) dL_law_32 (rgm (by omega) (by omega)) (by omega) (by omega) (off := 345) rfl rfl (L_sit C hy ld hI h4 hL kk)
    · exact r_tin C (tgt := 410) dL_law_32 (rgm (by omega) (by omega)) (by omega) (by omega) (off := 378) rfl rfl (L_night C hy ld hI h4 hL kk)
    · exact r_tin C (tgt := 423) dL_law_32 (rgm (by omega) (by omega)) (by omega) (by omega) (off := 391) rfl rfl (L_curdle C hy ld hI h4 hL kk)
    · exact r_tin C (tgt := 436) dL_law_32 (rgm (by omega) (by omega)) (by omega) (by omega) (off := 404) rfl rfl (L_fresh C hy ld hI h4 hL kk)
    · exact r_tin C (tgt := 459) dL_law_32 (rgm (by omega) (by omega)) (by omega) (by omega) (off := 427) rfl rfl (L_force C hy ld hI h4 hL kk)
    · exact r_tin C (tgt := 482) dL_law_32 (rgm (by omega) (by omega)) (by omega) (by omega) (off := 450) rfl rfl (L_keep C hy ld hI h4 hL kk)
    · exact r_tin C (tgt := 515) dL_law_32 (rgm (by omega) (by omega)) (by omega) (by omega) (off := 483) rfl rfl (L_pour C hy ld hI h4 hL kk)
    · exact r_tin C (tgt := 548) dL_law_32 (rgm (by omega) (by omega)) (by omega) (by omega) (off := 516) rfl rfl (L_bottle C hy ld hI h4 hL kk)
    · exact r_tin C (tgt := 571) dL_law_32 (rgm (by omega) (by omega)) (by omega) (by omega) (off := 539) rfl rfl (L_would C hy ld hI h4 hL kk)
    · exact r_tin C (tgt := 584) dL_law_32 (rgm (by omega) (by omega)) (by omega) (by omega) (off := 552) rfl rfl (L_few C hy ld hI h4 hL kk)
    · exact r_tin C (tgt := 617) dL_law_32 (rgm (by omega) (by omega)) (by omega) (by omega) (off := 585) rfl rfl (L_week C hy ld hI h4 hL kk)
    · exact r_tin C (tgt := 650) dL_law_32 (rgm (by omega) (by omega)) (by omega) (by omega) (off := 618) rfl rfl (L_who C hy ld hI h4 hL kk)
    · exact r_tin C (tgt := 673) dL_law_32 (rgm (by omega) (by omega)) (by omega) (by omega) (off := 641) rfl rfl (L_see C hy ld hI h4 hL kk)
    · exact r_tin C (tgt := 716) dL_law_32 (rgm (by omega) (by omega)) (by omega) (by omega) (off := 684) rfl rfl (L_forget C hy ld hI h4 hL kk)
    · exact r_tin C (tgt := 729) dL_law_32 (rgm (by omega) (by omega)) (by omega) (by omega) (off := 697) rfl rfl (L_weeks C hy ld hI h4 hL kk)
    · exact r_tin C (tgt := 772) dL_law_32 (rgm (by omega) (by omega)) (by omega) (by omega) (off := 740) rfl rfl (L_image C hy ld hI h4 hL kk)
    · exact r_tin C (tgt := 785) dL_law_32 (rgm (by omega) (by omega)) (by omega) (by omega) (off := 753) rfl rfl (L_restore C hy ld hI h4 hL kk)
    · exact r_tin C (tgt := 798) dL_law_32 (rgm (by omega) (by omega)) (by omega) (by omega) (off := 766) rfl rfl (L_count C hy ld hI h4 hL kk)
    · exact r_tin C (tgt := 821) dL_law_32 (rgm (by omega) (by omega)) (by omega) (by omega) (off := 789) rfl rfl (L_digest C hy ld hI h4 hL kk)
set_option maxRecDepth 10000 in
set_option maxHeartbeats 1000000 in
theorem law_loop {G : GT} (C : Ru G RL cL_law 4 20) {L : Nat} {ys : Nat → Int} (hy : ∀ k, rg (ys k)) (ld : Ld G L ys) (ln : Ln G L) (le : Le G) (hL : L ≤ 2048) : ∀ (n c : Nat) (M : Mm_), INV c M → 4 * c ≤ L → L < 4 * c + 4 + 4 * n → G 18 [.ref 103, .ref 0, .ref 48, .int (zI (4 * (c : Int)))] [] M := by
  intro n
  induction n with
  | zero =>
    intro c M hI h1 h2
    refine r_iload_n C rfl dL_law_18 ?_
    refine r_aload_n C rfl dL_law_19 ?_
    refine ln _ _ _ _ dL_law_20 ?_
    refine r_iconst C dL_law_21 ?_
    refine r_isub C dL_law_22 ?_
    refine r_icmp_gt C (tgt := 841) dL_law_23 rfl (rgm (by omega) (by omega)) (rgm (by omega) (by omega)) (fun h => ?_) (fun h => absurd (show (L : Int) - 4 < 4 * (c : Int) by omega) h)
    refine r_iconst C dL_law_841 ?_
    exact le _ _ _ dL_law_842
  | succ n ih =>
    intro c M hI h1 h2
    refine r_iload_n C rfl dL_law_18 ?_
    refine r_aload_n C rfl dL_law_19 ?_
    refine ln _ _ _ _ dL_law_20 ?_
    refine r_iconst C dL_law_21 ?_
    refine r_isub C dL_law_22 ?_
    refine r_icmp_gt C (tgt := 841) dL_law_23 rfl (rgm (by omega) (by omega)) (rgm (by omega) (by omega)) (fun h => ?_) (fun h => ?_)
    · refine r_iconst C dL_law_841 ?_
      exact le _ _ _ dL_law_842
    · have h4 : 4 * c + 4 ≤ L := by omega
      have kk : ∀ N, INV (c + 1) N → G 835 [.ref 103, .ref 0, .ref 48, .int (zI (4 * (c : Int)))] [] N := by
        intro N hN
        refine r_iinc C dL_law_835 rfl (by decide) rfl ?_
        dsimp only [List.set, Nat.reduceAdd]
        refine r_goto C (tgt := 18) dL_law_838 rfl ?_
        have h9 := ih (c + 1) N hN (by omega) (by omega)
        rw [show (4 : Int) * ((c + 1 : Nat) : Int) = 4 * (c : Int) + 4 by omega] at h9
        exact h9
      refine r_aload_n C rfl dL_law_26 ?_
      refine r_iload_n C rfl dL_law_27 ?_
      refine ld _ _ _ _ _ (4 * c) dL_law_28 (by omega) (by omega) ?_
      refine r_bipush C rfl dL_law_29 ?_
      obtain ⟨j, hj, ej⟩ := pk_andE (zI (ys (4 * c))) (m := zI 31) 5 (by decide)
      refine r_iand C (ej.trans (zI_nat j).symm) dL_law_31 ?_
      exact L_turn C hy ld hI h4 hL kk hj
