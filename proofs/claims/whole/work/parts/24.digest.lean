
def hst (h : Int64) (z : Int) : Int64 := 31 * h + (zI z).toInt64
def hfo (f : Nat → Int) : Nat → Int64 → Int64
  | 0, h => h
  | k + 1, h => hst (hfo f k h) (f k)
def hin (f : Nat → Int) : Nat → Int64 → Int64
  | 0, h => h
  | w + 1, h => if w ≠ 9 then hst (hin f w h) (f w) else hin f w h
def hou (V : Nat → Nat → Int) : Nat → Int64 → Int64
  | 0, h => h
  | i + 1, h => hin (V i) 13 (hou V i h)
def hoq (V : Nat → Nat → Int) : Nat → Int64 → Int64
  | 0, h => h
  | i + 1, h => hfo (V i) 7 (hoq V i h)
/-- the digest, by what is told -/
def dgF (n m : Nat) (Vp Vq : Nat → Nat → Int) (F B : Nat → Int) (wh : Int) (k : Nat) (c q : Nat → Int) : Int64 :=
  hfo q 15 (hfo c k (if 0 < n then hst (hfo B 4 (hfo F 6 (hoq Vq m (hou Vp n 1123)))) wh else hoq Vq m (hou Vp n 1123)))
def whoX (M : Mm_) : Int := justF (M.1 7) (M.1 9) (M.1 10) (M.1 8 7) (M.1 13) (M.1 14) (M.1 6) (M.1 3 5).toNat (WDc (M.1 7) (FA (M.1 9) (M.1 10) (M.1 8 7) (M.1 13) (M.1 14)) (M.1 3 5).toNat) (M.1 3 4 * 3).toNat
def dgX (M : Mm_) : Int64 := dgF (M.1 3 4).toNat (M.1 3 5).toNat (fun i w => vPer M i (w : Int)) (fun i w => vPail M i (w : Int)) (fun i => FA (M.1 9) (M.1 10) (M.1 8 7) (M.1 13) (M.1 14) (i : Int)) (M.1 12) (whoX M) (M.1 1 1).toNat (M.1 2) (fun w => vCount M (w : Int))
theorem oX_S {M T : Mm_} (h : xS M T) (hX : oX M) : oX T := by
  have e0 := h.1 0 (by omega)
  have e1 := h.1 1 (by omega)
  have e2 := h.1 2 (by omega)
  have e3 := h.1 3 (by omega)
  have e4 := h.1 4 (by omega)
  have e5 := h.1 5 (by omega)
  have e6 := h.1 6 (by omega)
  have e7 := h.1 7 (by omega)
  have e8 := h.1 8 (by omega)
  have e9 := h.1 9 (by omega)
  have e10 := h.1 10 (by omega)
  have e11 := h.1 11 (by omega)
  have e12 := h.1 12 (by omega)
  have e13 := h.1 13 (by omega)
  have e14 := h.1 14 (by omega)
  have e15 := h.1 15 (by omega)
  have e16 := h.1 16 (by omega)
  have e17 := h.1 17 (by omega)
  have e18 := h.1 18 (by omega)
  unfold oX oP oV oF at hX ⊢
  simp only [e0, e1, e2, e3, e4, e5, e6, e7, e8, e9, e10, e11, e12, e13, e14, e15, e16, e17, e18]
  exact hX
theorem vPer_S {M T : Mm_} (h : xS M T) (k : Nat) (w : Int) : vPer T k w = vPer M k w := by
  have e0 := h.1 0 (by omega)
  have e1 := h.1 1 (by omega)
  have e2 := h.1 2 (by omega)
  have e3 := h.1 3 (by omega)
  have e4 := h.1 4 (by omega)
  have e5 := h.1 5 (by omega)
  have e6 := h.1 6 (by omega)
  have e7 := h.1 7 (by omega)
  have e8 := h.1 8 (by omega)
  have e9 := h.1 9 (by omega)
  have e10 := h.1 10 (by omega)
  have e11 := h.1 11 (by omega)
  have e12 := h.1 12 (by omega)
  have e13 := h.1 13 (by omega)
  have e14 := h.1 14 (by omega)
  have e15 := h.1 15 (by omega)
  have e16 := h.1 16 (by omega)
  have e17 := h.1 17 (by omega)
  have e18 := h.1 18 (by omega)
  simp only [vPer, e0, e1, e2, e3, e4, e5, e6, e7, e8, e9, e10, e11, e12, e13, e14, e15, e16, e17, e18]
theorem vPail_S {M T : Mm_} (h : xS M T) (k : Nat) (w : Int) : vPail T k w = vPail M k w := by
  have e0 := h.1 0 (by omega)
  have e1 := h.1 1 (by omega)
  have e2 := h.1 2 (by omega)
  have e3 := h.1 3 (by omega)
  have e4 := h.1 4 (by omega)
  have e5 := h.1 5 (by omega)
  have e6 := h.1 6 (by omega)
  have e7 := h.1 7 (by omega)
  have e8 := h.1 8 (by omega)
  have e9 := h.1 9 (by omega)
  have e10 := h.1 10 (by omega)
  have e11 := h.1 11 (by omega)
  have e12 := h.1 12 (by omega)
  have e13 := h.1 13 (by omega)
  have e14 := h.1 14 (by omega)
  have e15 := h.1 15 (by omega)
  have e16 := h.1 16 (by omega)
  have e17 := h.1 17 (by omega)
  have e18 := h.1 18 (by omega)
  simp only [vPail, e0, e1, e2, e3, e4, e5, e6, e7, e8, e9, e10, e11, e12, e13, e14, e15, e16, e17, e18]
theorem vCount_S {M T : Mm_} (h : xS M T) (w : Int) : vCount T w = vCount M w := by
  have e0 := h.1 0 (by omega)
  have e1 := h.1 1 (by omega)
  have e2 := h.1 2 (by omega)
  have e3 := h.1 3 (by omega)
  have e4 := h.1 4 (by omega)
  have e5 := h.1 5 (by omega)
  have e6 := h.1 6 (by omega)
  have e7 := h.1 7 (by omega)
  have e8 := h.1 8 (by omega)
  have e9 := h.1 9 (by omega)
  have e10 := h.1 10 (by omega)
  have e11 := h.1 11 (by omega)
  have e12 := h.1 12 (by omega)
  have e13 := h.1 13 (by omega)
  have e14 := h.1 14 (by omega)
  have e15 := h.1 15 (by omega)
  have e16 := h.1 16 (by omega)
  have e17 := h.1 17 (by omega)
  have e18 := h.1 18 (by omega)
  simp only [vCount, e0, e1, e2, e3, e4, e5, e6, e7, e8, e9, e10, e11, e12, e13, e14, e15, e16, e17, e18]

set_option maxRecDepth 10000 in
set_option maxHeartbeats 1000000 in
theorem c_x_digest (M : Mm_) (hX : oX M) : Cn 6 kX6_digest [.ref 0] M (fun r U => r = some (.long (dgX M)) ∧ xS M U) := by
  obtain ⟨hp, hv, hf, hbo, hsb, hng, ⟨hs, hsp, hsw, hsy⟩, hfd, hwd, hhk⟩ := id hX
  have hv0 := hv.1
  have hpw := pw_b (k := (M.1 3 5).toNat) (by omega)
  have hp1 := hp.1
  have hWb := WDc_b (M.1 7) (FA (M.1 9) (M.1 10) (M.1 8 7) (M.1 13) (M.1 14)) (M.1 3 5).toNat (by omega)
  refine Cn.of rfl (Nat.le_of_ble_eq_true rfl) (fun G C E => ?_)
  show G 0 [.ref 0, .null, .null, .null, .null] [] M
  have lq : ∀ i : Nat, i ≤ 15 → ∀ (T : Mm_) (h : Int64) (z : Int) (v4 : Value), xS M T → h = hfo (fun w => vCount M (w : Int)) i (hfo (M.1 2) (M.1 1 1).toNat (if 0 < (M.1 3 4).toNat then hst (hfo (M.1 12) 4 (hfo (fun i => FA (M.1 9) (M.1 10) (M.1 8 7) (M.1 13) (M.1 14) (i : Int)) 6 (hoq (fun i w => vPail M i (w : Int)) (M.1 3 5).toNat (hou (fun i w => vPer M i (w : Int)) (M.1 3 4).toNat 1123)))) (whoX M) else hoq (fun i w => vPail M i (w : Int)) (M.1 3 5).toNat (hou (fun i w => vPer M i (w : Int)) (M.1 3 4).toNat 1123))) → z = i → G 234 [.ref 0, .long h, .null, .int (zI z), v4] [] T := by
    refine lpN (15) ?_ ?_
    · intro T h z v4 hS hh hz
      have e3 := hS.1 3 (by omega)
      have e34 := congrFun e3 4
      have e35 := congrFun e3 5
      have e11 := congrFun (hS.1 1 (by omega)) 1
      have e1 := hS.1 1 (by omega)
      refine r_iload_n C rfl dX6_digest_234 ?_
      refine r_bipush C rfl dX6_digest_235 ?_
      refine r_icmp_ge C (tgt := 259) dX6_digest_237 rfl (by first | assumption | exact rgm (by omega) (by omega)) (by first | assumption | exact rgm (by omega) (by omega)) (fun h237 => ?_) (fun h237 => absurd h237 (by omega))
      refine r_lload_n C rfl dX6_digest_259 ?_
      exact r_lret E dX6_digest_260 ⟨by rw [hh]; rfl, hS⟩
    · intro i hi ih T h z v4 hS hh hz
      have e3 := hS.1 3 (by omega)
      have e34 := congrFun e3 4
      have e35 := congrFun e3 5
      have e11 := congrFun (hS.1 1 (by omega)) 1
      have e1 := hS.1 1 (by omega)
      have hXT := oX_S hS hX
      refine r_iload_n C rfl dX6_digest_234 ?_
      refine r_bipush C rfl dX6_digest_235 ?_
      refine r_icmp_ge C (tgt := 259) dX6_digest_237 rfl (by first | assumption | exact rgm (by omega) (by omega)) (by first | assumption | exact rgm (by omega) (by omega)) (fun h237 => absurd h237 (by omega)) (fun h237 => ?_)
      refine r_ldc2 C dX6_digest_240 kc_X6_255 ?_
      refine r_lload_n C rfl dX6_digest_243 ?_
      refine r_lmul C dX6_digest_244 ?_
      refine r_aload_n C rfl dX6_digest_245 ?_
      refine r_iload_n C rfl dX6_digest_246 ?_
      refine r_callV C dX6_digest_247 vw_X6_278 (c_x_count T (rgm (by omega) (by omega)) hXT) (by decide) rfl ly_0 rfl rfl (Nat.le_of_ble_eq_true rfl) ?_
      intro r T2 hpost
      obtain ⟨rfl, hS2⟩ := hpost
      try dsimp only [Option.toList, List.cons_append, List.nil_append]
      have hS3 := xS_tr hS hS2
      rw [vCount_S hS, hz]
      refine r_i2l C dX6_digest_250 ?_
      refine r_ladd C dX6_digest_251 ?_
      refine r_lstore_n C dX6_digest_252 1 rfl (by decide) rfl ?_
      dsimp only [List.set, Nat.reduceAdd]
      refine r_iinc C dX6_digest_253 rfl (by decide) rfl ?_
      dsimp only [List.set, Nat.reduceAdd]
      refine r_goto C (tgt := 234) dX6_digest_256 rfl ?_
      exact ih _ _ _ _ hS3 (by rw [hh]; rfl) (by omega)
  have lc : ∀ i : Nat, i ≤ (M.1 1 1).toNat → ∀ (T : Mm_) (h : Int64) (z : Int) (v4 : Value), xS M T → h = hfo (M.1 2) i (if 0 < (M.1 3 4).toNat then hst (hfo (M.1 12) 4 (hfo (fun i => FA (M.1 9) (M.1 10) (M.1 8 7) (M.1 13) (M.1 14) (i : Int)) 6 (hoq (fun i w => vPail M i (w : Int)) (M.1 3 5).toNat (hou (fun i w => vPer M i (w : Int)) (M.1 3 4).toNat 1123)))) (whoX M) else hoq (fun i w => vPail M i (w : Int)) (M.1 3 5).toNat (hou (fun i w => vPer M i (w : Int)) (M.1 3 4).toNat 1123)) → z = i → G 199 [.ref 0, .long h, .null, .int (zI z), v4] [] T := by
    refine lpN ((M.1 1 1).toNat) ?_ ?_
    · intro T h z v4 hS hh hz
      have e3 := hS.1 3 (by omega)
      have e34 := congrFun e3 4
      have e35 := congrFun e3 5
      have e11 := congrFun (hS.1 1 (by omega)) 1
      have e1 := hS.1 1 (by omega)
      refine r_iload_n C rfl dX6_digest_199 ?_
      refine r_aload_n C rfl dX6_digest_200 ?_
      refine r_getr C dX6_digest_201 fl_X6_10 ly_0 rfl ?_
      refine r_geti C dX6_digest_204 fl_X6_40 ly_1 rfl ?_
      refine r_icmp_ge C (tgt := 232) dX6_digest_207 rfl (by first | assumption | exact rgm (by omega) (by omega)) (by first | assumption | exact rgm (by omega) (by omega)) (fun h207 => ?_) (fun h207 => absurd h207 (by omega))
      refine r_iconst C dX6_digest_232 ?_
      refine r_istore_n C dX6_digest_233 3 rfl (by decide) rfl ?_
      dsimp only [List.set, Nat.reduceAdd]
      exact lq 0 (by omega) _ _ _ _ hS (by rw [hh]; rfl) rfl
    · intro i hi ih T h z v4 hS hh hz
      have e3 := hS.1 3 (by omega)
      have e34 := congrFun e3 4
      have e35 := congrFun e3 5
      have e11 := congrFun (hS.1 1 (by omega)) 1
      have e1 := hS.1 1 (by omega)
      have hXT := oX_S hS hX
      refine r_iload_n C rfl dX6_digest_199 ?_
      refine r_aload_n C rfl dX6_digest_200 ?_
      refine r_getr C dX6_digest_201 fl_X6_10 ly_0 rfl ?_
      refine r_geti C dX6_digest_204 fl_X6_40 ly_1 rfl ?_
      refine r_icmp_ge C (tgt := 232) dX6_digest_207 rfl (by first | assumption | exact rgm (by omega) (by omega)) (by first | assumption | exact rgm (by omega) (by omega)) (fun h207 => absurd h207 (by omega)) (fun h207 => ?_)
      refine r_ldc2 C dX6_digest_210 kc_X6_255 ?_
      refine r_lload_n C rfl dX6_digest_213 ?_
      refine r_lmul C dX6_digest_214 ?_
      refine r_aload_n C rfl dX6_digest_215 ?_
      refine r_getr C dX6_digest_216 fl_X6_10 ly_0 rfl ?_
      refine r_iload_n C rfl dX6_digest_219 ?_
      refine r_cVz C dX6_digest_220 vw_X6_275 (c_codeAt T hz (by omega) hXT.1) (by decide) rfl ly_1 rfl rfl (Nat.le_of_ble_eq_true rfl) ?_
      rw [hS.1 2 (by omega)]
      refine r_i2l C dX6_digest_223 ?_
      refine r_ladd C dX6_digest_224 ?_
      refine r_lstore_n C dX6_digest_225 1 rfl (by decide) rfl ?_
      dsimp only [List.set, Nat.reduceAdd]
      refine r_iinc C dX6_digest_226 rfl (by decide) rfl ?_
      dsimp only [List.set, Nat.reduceAdd]
      refine r_goto C (tgt := 199) dX6_digest_229 rfl ?_
      exact ih _ _ _ _ hS (by rw [hh]; rfl) (by omega)
  have hW2 : (WDc (M.1 7) (FA (M.1 9) (M.1 10) (M.1 8 7) (M.1 13) (M.1 14)) (M.1 3 5).toNat) < 2 ^ (M.1 3 5).toNat := (sbb _ _).2
  have lw : ∀ (T : Mm_) (h : Int64) (v3 v4 : Value), xS M T → 0 < M.1 3 4 → h = hfo (M.1 12) 4 (hfo (fun i => FA (M.1 9) (M.1 10) (M.1 8 7) (M.1 13) (M.1 14) (i : Int)) 6 (hoq (fun i w => vPail M i (w : Int)) (M.1 3 5).toNat (hou (fun i w => vPer M i (w : Int)) (M.1 3 4).toNat 1123))) → G 181 [.ref 0, .long h, .null, v3, v4] [] T := by
    intro T h v3 v4 hS hpos hh
    have hXT := oX_S hS hX
    refine r_ldc2 C dX6_digest_181 kc_X6_255 ?_
    refine r_lload_n C rfl dX6_digest_184 ?_
    refine r_lmul C dX6_digest_185 ?_
    refine r_aload_n C rfl dX6_digest_186 ?_
    refine r_aload_n C rfl dX6_digest_187 ?_
    refine r_callV C dX6_digest_188 vw_X6_269 (c_x_would T hXT) (by decide) rfl ly_0 rfl rfl (Nat.le_of_ble_eq_true rfl) ?_
    intro r T2 hpost
    obtain ⟨rfl, hS2⟩ := hpost
    try dsimp only [Option.toList, List.cons_append, List.nil_append]
    have hS3 := xS_tr hS hS2
    simp only [hS.1 3 (show (3 : Nat) < 30 ∨ 48 ≤ 3 by omega), hS.1 7 (show (7 : Nat) < 30 ∨ 48 ≤ 7 by omega), hS.1 8 (show (8 : Nat) < 30 ∨ 48 ≤ 8 by omega), hS.1 9 (show (9 : Nat) < 30 ∨ 48 ≤ 9 by omega), hS.1 10 (show (10 : Nat) < 30 ∨ 48 ≤ 10 by omega), hS.1 13 (show (13 : Nat) < 30 ∨ 48 ≤ 13 by omega), hS.1 14 (show (14 : Nat) < 30 ∨ 48 ≤ 14 by omega)]
    rw [if_pos hpos]
    refine r_callV C dX6_digest_191 vw_X6_272 (c_x_who T2 (rgm (by omega) (by omega)) (oX_S hS3 hX)) (by decide) rfl ly_0 rfl rfl (Nat.le_of_ble_eq_true rfl) ?_
    intro r T4 hpost
    obtain ⟨rfl, hS4⟩ := hpost
    try dsimp only [Option.toList, List.cons_append, List.nil_append]
    simp only [hS3.1 3 (show (3 : Nat) < 30 ∨ 48 ≤ 3 by omega), hS3.1 6 (show (6 : Nat) < 30 ∨ 48 ≤ 6 by omega), hS3.1 7 (show (7 : Nat) < 30 ∨ 48 ≤ 7 by omega), hS3.1 8 (show (8 : Nat) < 30 ∨ 48 ≤ 8 by omega), hS3.1 9 (show (9 : Nat) < 30 ∨ 48 ≤ 9 by omega), hS3.1 10 (show (10 : Nat) < 30 ∨ 48 ≤ 10 by omega), hS3.1 13 (show (13 : Nat) < 30 ∨ 48 ≤ 13 by omega), hS3.1 14 (show (14 : Nat) < 30 ∨ 48 ≤ 14 by omega)]
    rw [if_pos ⟨hWb.1, hW2⟩, if_pos hpos]
    have hS5 := xS_tr hS3 hS4
    refine r_i2l C dX6_digest_194 ?_
    refine r_ladd C dX6_digest_195 ?_
    refine r_lstore_n C dX6_digest_196 1 rfl (by decide) rfl ?_
    dsimp only [List.set, Nat.reduceAdd]
    refine r_iconst C dX6_digest_197 ?_
    refine r_istore_n C dX6_digest_198 3 rfl (by decide) rfl ?_
    dsimp only [List.set, Nat.reduceAdd]
    exact lc 0 (Nat.zero_le _) _ _ _ _ hS5 (by rw [if_pos (by omega), hh]; rfl) rfl
  have lb : ∀ i : Nat, i ≤ 4 → ∀ (T : Mm_) (h : Int64) (z : Int) (v4 : Value), xS M T → 0 < M.1 3 4 → h = hfo (M.1 12) i (hfo (fun i => FA (M.1 9) (M.1 10) (M.1 8 7) (M.1 13) (M.1 14) (i : Int)) 6 (hoq (fun i w => vPail M i (w : Int)) (M.1 3 5).toNat (hou (fun i w => vPer M i (w : Int)) (M.1 3 4).toNat 1123))) → z = i → G 157 [.ref 0, .long h, .null, .int (zI z), v4] [] T := by
    refine lpN (4) ?_ ?_
    · intro T h z v4 hS hpos hh hz
      have e3 := hS.1 3 (by omega)
      have e34 := congrFun e3 4
      have e35 := congrFun e3 5
      have e11 := congrFun (hS.1 1 (by omega)) 1
      have e1 := hS.1 1 (by omega)
      refine r_iload_n C rfl dX6_digest_157 ?_
      refine r_iconst C dX6_digest_158 ?_
      refine r_icmp_ge C (tgt := 181) dX6_digest_159 rfl (by first | assumption | exact rgm (by omega) (by omega)) (by first | assumption | exact rgm (by omega) (by omega)) (fun h159 => ?_) (fun h159 => absurd h159 (by omega))
      exact lw _ _ _ _ hS hpos (by rw [hh])
    · intro i hi ih T h z v4 hS hpos hh hz
      have e3 := hS.1 3 (by omega)
      have e34 := congrFun e3 4
      have e35 := congrFun e3 5
      have e11 := congrFun (hS.1 1 (by omega)) 1
      have e1 := hS.1 1 (by omega)
      have hXT := oX_S hS hX
      refine r_iload_n C rfl dX6_digest_157 ?_
      refine r_iconst C dX6_digest_158 ?_
      refine r_icmp_ge C (tgt := 181) dX6_digest_159 rfl (by first | assumption | exact rgm (by omega) (by omega)) (by first | assumption | exact rgm (by omega) (by omega)) (fun h159 => absurd h159 (by omega)) (fun h159 => ?_)
      refine r_ldc2 C dX6_digest_162 kc_X6_255 ?_
      refine r_lload_n C rfl dX6_digest_165 ?_
      refine r_lmul C dX6_digest_166 ?_
      refine r_aload_n C rfl dX6_digest_167 ?_
      refine r_iload_n C rfl dX6_digest_168 ?_
      refine r_callV C dX6_digest_169 vw_X6_266 (c_x_bottle T (rgm (by omega) (by omega)) hXT) (by decide) rfl ly_0 rfl rfl (Nat.le_of_ble_eq_true rfl) ?_
      intro r T2 hpost
      obtain ⟨rfl, hS2⟩ := hpost
      try dsimp only [Option.toList, List.cons_append, List.nil_append]
      have hS3 := xS_tr hS hS2
      rw [if_pos (by rw [e3]; omega), hS.1 12 (by omega), show z.toNat = i by omega]
      refine r_i2l C dX6_digest_172 ?_
      refine r_ladd C dX6_digest_173 ?_
      refine r_lstore_n C dX6_digest_174 1 rfl (by decide) rfl ?_
      dsimp only [List.set, Nat.reduceAdd]
      refine r_iinc C dX6_digest_175 rfl (by decide) rfl ?_
      dsimp only [List.set, Nat.reduceAdd]
      refine r_goto C (tgt := 157) dX6_digest_178 rfl ?_
      exact ih _ _ _ _ hS3 hpos (by rw [hh]; rfl) (by omega)
  have lf : ∀ i : Nat, i ≤ 6 → ∀ (T : Mm_) (h : Int64) (z : Int) (v4 : Value), xS M T → 0 < M.1 3 4 → h = hfo (fun i => FA (M.1 9) (M.1 10) (M.1 8 7) (M.1 13) (M.1 14) (i : Int)) i (hoq (fun i w => vPail M i (w : Int)) (M.1 3 5).toNat (hou (fun i w => vPer M i (w : Int)) (M.1 3 4).toNat 1123)) → z = i → G 130 [.ref 0, .long h, .null, .int (zI z), v4] [] T := by
    refine lpN (6) ?_ ?_
    · intro T h z v4 hS hpos hh hz
      have e3 := hS.1 3 (by omega)
      have e34 := congrFun e3 4
      have e35 := congrFun e3 5
      have e11 := congrFun (hS.1 1 (by omega)) 1
      have e1 := hS.1 1 (by omega)
      refine r_iload_n C rfl dX6_digest_130 ?_
      refine r_bipush C rfl dX6_digest_131 ?_
      refine r_icmp_ge C (tgt := 155) dX6_digest_133 rfl (by first | assumption | exact rgm (by omega) (by omega)) (by first | assumption | exact rgm (by omega) (by omega)) (fun h133 => ?_) (fun h133 => absurd h133 (by omega))
      refine r_iconst C dX6_digest_155 ?_
      refine r_istore_n C dX6_digest_156 3 rfl (by decide) rfl ?_
      dsimp only [List.set, Nat.reduceAdd]
      exact lb 0 (by omega) _ _ _ _ hS hpos (by rw [hh]; rfl) rfl
    · intro i hi ih T h z v4 hS hpos hh hz
      have e3 := hS.1 3 (by omega)
      have e34 := congrFun e3 4
      have e35 := congrFun e3 5
      have e11 := congrFun (hS.1 1 (by omega)) 1
      have e1 := hS.1 1 (by omega)
      have hXT := oX_S hS hX
      refine r_iload_n C rfl dX6_digest_130 ?_
      refine r_bipush C rfl dX6_digest_131 ?_
      refine r_icmp_ge C (tgt := 155) dX6_digest_133 rfl (by first | assumption | exact rgm (by omega) (by omega)) (by first | assumption | exact rgm (by omega) (by omega)) (fun h133 => absurd h133 (by omega)) (fun h133 => ?_)
      refine r_ldc2 C dX6_digest_136 kc_X6_255 ?_
      refine r_lload_n C rfl dX6_digest_139 ?_
      refine r_lmul C dX6_digest_140 ?_
      refine r_aload_n C rfl dX6_digest_141 ?_
      refine r_iload_n C rfl dX6_digest_142 ?_
      refine r_callV C dX6_digest_143 vw_X6_263 (c_x_force T (rgm (by omega) (by omega)) hXT) (by decide) rfl ly_0 rfl rfl (Nat.le_of_ble_eq_true rfl) ?_
      intro r T2 hpost
      obtain ⟨rfl, hS2⟩ := hpost
      try dsimp only [Option.toList, List.cons_append, List.nil_append]
      have hS3 := xS_tr hS hS2
      rw [if_pos (by rw [e3]; omega), hS.1 8 (by omega), hS.1 9 (by omega), hS.1 10 (by omega), hS.1 13 (by omega), hS.1 14 (by omega), hz]
      refine r_i2l C dX6_digest_146 ?_
      refine r_ladd C dX6_digest_147 ?_
      refine r_lstore_n C dX6_digest_148 1 rfl (by decide) rfl ?_
      dsimp only [List.set, Nat.reduceAdd]
      refine r_iinc C dX6_digest_149 rfl (by decide) rfl ?_
      dsimp only [List.set, Nat.reduceAdd]
      refine r_goto C (tgt := 130) dX6_digest_152 rfl ?_
      exact ih _ _ _ _ hS3 hpos (by rw [hh]; rfl) (by omega)
  have lt : ∀ (T : Mm_) (h : Int64) (v3 v4 : Value), xS M T → h = hoq (fun i w => vPail M i (w : Int)) (M.1 3 5).toNat (hou (fun i w => vPer M i (w : Int)) (M.1 3 4).toNat 1123) → G 118 [.ref 0, .long h, .null, v3, v4] [] T := by
    intro T h v3 v4 hS hh
    have e3 := hS.1 3 (by omega)
    have e34 := congrFun e3 4
    have e35 := congrFun e3 5
    have e11 := congrFun (hS.1 1 (by omega)) 1
    refine r_aload_n C rfl dX6_digest_118 ?_
    refine r_getr C dX6_digest_119 fl_X6_19 ly_0 rfl ?_
    refine r_cVb C dX6_digest_122 vw_X6_161 (c_isThere T (oV_S hS hv)) (by decide) rfl ly_3 rfl rfl (Nat.le_of_ble_eq_true rfl) (fun h122 => ?_) (fun h122 => ?_)
    · refine r_if_eq C (tgt := 197) dX6_digest_125 rfl (by first | assumption | exact rgm (by omega) (by omega)) (fun h125 => absurd h125 (by decide)) (fun h125 => ?_)
      refine r_iconst C dX6_digest_128 ?_
      refine r_istore_n C dX6_digest_129 3 rfl (by decide) rfl ?_
      dsimp only [List.set, Nat.reduceAdd]
      exact lf 0 (by omega) _ _ _ _ hS (by rw [← e3]; exact h122) (by rw [hh]; rfl) rfl
    · refine r_if_eq C (tgt := 197) dX6_digest_125 rfl (by first | assumption | exact rgm (by omega) (by omega)) (fun h125 => ?_) (fun h125 => absurd h125 (by decide))
      refine r_iconst C dX6_digest_197 ?_
      refine r_istore_n C dX6_digest_198 3 rfl (by decide) rfl ?_
      dsimp only [List.set, Nat.reduceAdd]
      exact lc 0 (Nat.zero_le _) _ _ _ _ hS (by rw [if_neg (by rw [e3] at h122; omega), hh]; rfl) rfl
  have lpp : ∀ i : Nat, i ≤ (M.1 3 5).toNat → ∀ (T : Mm_) (h : Int64) (z : Int) (v4 : Value), xS M T → h = hoq (fun i w => vPail M i (w : Int)) i (hou (fun i w => vPer M i (w : Int)) (M.1 3 4).toNat 1123) → z = i → G 70 [.ref 0, .long h, .null, .int (zI z), v4] [] T := by
    refine lpN ((M.1 3 5).toNat) ?_ ?_
    · intro T h z v4 hS hh hz
      have e3 := hS.1 3 (by omega)
      have e34 := congrFun e3 4
      have e35 := congrFun e3 5
      have e11 := congrFun (hS.1 1 (by omega)) 1
      refine r_iload_n C rfl dX6_digest_70 ?_
      refine r_aload_n C rfl dX6_digest_71 ?_
      refine r_getr C dX6_digest_72 fl_X6_19 ly_0 rfl ?_
      refine r_geti C dX6_digest_75 fl_X6_72 ly_3 rfl ?_
      refine r_icmp_ge C (tgt := 118) dX6_digest_78 rfl (by first | assumption | exact rgm (by omega) (by omega)) (by first | assumption | exact rgm (by omega) (by omega)) (fun h78 => ?_) (fun h78 => absurd h78 (by omega))
      exact lt _ _ _ _ hS (by rw [hh])
    · intro i hi ih T0 h0 z v4 hS0 hh0 hz
      have lpw : ∀ w : Nat, w ≤ 7 → ∀ (T : Mm_) (h : Int64) (y : Int), xS M T → h = hfo (fun w => vPail M i (w : Int)) w (hoq (fun i w => vPail M i (w : Int)) i (hou (fun i w => vPer M i (w : Int)) (M.1 3 4).toNat 1123)) → y = w → G 84 [.ref 0, .long h, .null, .int (zI z), .int (zI y)] [] T := by
        refine lpN 7 ?_ ?_
        · intro T h y hS hh hy
          refine r_iload C rfl dX6_digest_84 ?_
          refine r_bipush C rfl dX6_digest_86 ?_
          refine r_icmp_ge C (tgt := 112) dX6_digest_88 rfl (by first | assumption | exact rgm (by omega) (by omega)) (by first | assumption | exact rgm (by omega) (by omega)) (fun h88 => ?_) (fun h88 => absurd h88 (by omega))
          refine r_iinc C dX6_digest_112 rfl (by decide) rfl ?_
          dsimp only [List.set, Nat.reduceAdd]
          refine r_goto C (tgt := 70) dX6_digest_115 rfl ?_
          exact ih _ _ _ _ hS (by rw [hh]; rfl) (by omega)
        · intro w hw ihw T h y hS hh hy
          have hXT := oX_S hS hX
          have e3 := hS.1 3 (by omega)
          have e34 := congrFun e3 4
          have e35 := congrFun e3 5
          have e11 := congrFun (hS.1 1 (by omega)) 1
          refine r_iload C rfl dX6_digest_84 ?_
          refine r_bipush C rfl dX6_digest_86 ?_
          refine r_icmp_ge C (tgt := 112) dX6_digest_88 rfl (by first | assumption | exact rgm (by omega) (by omega)) (by first | assumption | exact rgm (by omega) (by omega)) (fun h88 => absurd h88 (by omega)) (fun h88 => ?_)
          refine r_ldc2 C dX6_digest_91 kc_X6_255 ?_
          refine r_lload_n C rfl dX6_digest_94 ?_
          refine r_lmul C dX6_digest_95 ?_
          refine r_aload_n C rfl dX6_digest_96 ?_
          refine r_iload_n C rfl dX6_digest_97 ?_
          refine r_iload C rfl dX6_digest_98 ?_
          rw [hz]
          refine r_callV C dX6_digest_100 vw_X6_260 (c_x_pail T (k := i) (by omega) (rgm (by omega) (by omega)) hXT) (by decide) rfl ly_0 rfl rfl (Nat.le_of_ble_eq_true rfl) ?_
          intro r T2 hpost
          obtain ⟨rfl, hS2⟩ := hpost
          try dsimp only [Option.toList, List.cons_append, List.nil_append]
          have hS3 := xS_tr hS hS2
          rw [← hz]
          rw [vPail_S hS, hy]
          refine r_i2l C dX6_digest_103 ?_
          refine r_ladd C dX6_digest_104 ?_
          refine r_lstore_n C dX6_digest_105 1 rfl (by decide) rfl ?_
          dsimp only [List.set, Nat.reduceAdd]
          refine r_iinc C dX6_digest_106 rfl (by decide) rfl ?_
          dsimp only [List.set, Nat.reduceAdd]
          refine r_goto C (tgt := 84) dX6_digest_109 rfl ?_
          exact ihw _ _ _ hS3 (by rw [hh]; rfl) (by omega)
      have e3 := hS0.1 3 (by omega)
      have e34 := congrFun e3 4
      have e35 := congrFun e3 5
      have e11 := congrFun (hS0.1 1 (by omega)) 1
      refine r_iload_n C rfl dX6_digest_70 ?_
      refine r_aload_n C rfl dX6_digest_71 ?_
      refine r_getr C dX6_digest_72 fl_X6_19 ly_0 rfl ?_
      refine r_geti C dX6_digest_75 fl_X6_72 ly_3 rfl ?_
      refine r_icmp_ge C (tgt := 118) dX6_digest_78 rfl (by first | assumption | exact rgm (by omega) (by omega)) (by first | assumption | exact rgm (by omega) (by omega)) (fun h78 => absurd h78 (by omega)) (fun h78 => ?_)
      refine r_iconst C dX6_digest_81 ?_
      refine r_istore C dX6_digest_82 4 rfl (by decide) rfl ?_
      dsimp only [List.set, Nat.reduceAdd]
      exact lpw 0 (by omega) _ _ _ hS0 (by rw [hh0]; rfl) rfl
  have lpr : ∀ i : Nat, i ≤ (M.1 3 4).toNat → ∀ (T : Mm_) (h : Int64) (z : Int) (v4 : Value), xS M T → h = hou (fun i w => vPer M i (w : Int)) i 1123 → z = i → G 6 [.ref 0, .long h, .null, .int (zI z), v4] [] T := by
    refine lpN ((M.1 3 4).toNat) ?_ ?_
    · intro T h z v4 hS hh hz
      have e3 := hS.1 3 (by omega)
      have e34 := congrFun e3 4
      have e35 := congrFun e3 5
      have e11 := congrFun (hS.1 1 (by omega)) 1
      refine r_iload_n C rfl dX6_digest_6 ?_
      refine r_aload_n C rfl dX6_digest_7 ?_
      refine r_getr C dX6_digest_8 fl_X6_19 ly_0 rfl ?_
      refine r_geti C dX6_digest_11 fl_X6_244 ly_3 rfl ?_
      refine r_icmp_ge C (tgt := 68) dX6_digest_14 rfl (by first | assumption | exact rgm (by omega) (by omega)) (by first | assumption | exact rgm (by omega) (by omega)) (fun h14 => ?_) (fun h14 => absurd h14 (by omega))
      refine r_iconst C dX6_digest_68 ?_
      refine r_istore_n C dX6_digest_69 3 rfl (by decide) rfl ?_
      dsimp only [List.set, Nat.reduceAdd]
      exact lpp 0 (Nat.zero_le _) _ _ _ _ hS (by rw [hh]; rfl) rfl
    · intro i hi ih T0 h0 z v4 hS0 hh0 hz
      have lpw : ∀ w : Nat, w ≤ 13 → ∀ (T : Mm_) (h : Int64) (y : Int), xS M T → h = hin (fun w => vPer M i (w : Int)) w (hou (fun i w => vPer M i (w : Int)) i 1123) → y = w → G 20 [.ref 0, .long h, .null, .int (zI z), .int (zI y)] [] T := by
        refine lpN 13 ?_ ?_
        · intro T h y hS hh hy
          refine r_iload C rfl dX6_digest_20 ?_
          refine r_bipush C rfl dX6_digest_22 ?_
          refine r_icmp_ge C (tgt := 62) dX6_digest_24 rfl (by first | assumption | exact rgm (by omega) (by omega)) (by first | assumption | exact rgm (by omega) (by omega)) (fun h24 => ?_) (fun h24 => absurd h24 (by omega))
          refine r_iinc C dX6_digest_62 rfl (by decide) rfl ?_
          dsimp only [List.set, Nat.reduceAdd]
          refine r_goto C (tgt := 6) dX6_digest_65 rfl ?_
          exact ih _ _ _ _ hS (by rw [hh]; rfl) (by omega)
        · intro w hw ihw T h y hS hh hy
          have hXT := oX_S hS hX
          have e3 := hS.1 3 (by omega)
          have e34 := congrFun e3 4
          have e35 := congrFun e3 5
          have e11 := congrFun (hS.1 1 (by omega)) 1
          refine r_iload C rfl dX6_digest_20 ?_
          refine r_bipush C rfl dX6_digest_22 ?_
          refine r_icmp_ge C (tgt := 62) dX6_digest_24 rfl (by first | assumption | exact rgm (by omega) (by omega)) (by first | assumption | exact rgm (by omega) (by omega)) (fun h24 => absurd h24 (by omega)) (fun h24 => ?_)
          refine r_iload C rfl dX6_digest_27 ?_
          refine r_bipush C rfl dX6_digest_29 ?_
          refine r_icmp_le C (tgt := 41) dX6_digest_31 rfl (by first | assumption | exact rgm (by omega) (by omega)) (by first | assumption | exact rgm (by omega) (by omega)) (fun h31 => ?_) (fun h31 => ?_)
          · refine r_ldc2 C dX6_digest_41 kc_X6_255 ?_
            refine r_lload_n C rfl dX6_digest_44 ?_
            refine r_lmul C dX6_digest_45 ?_
            refine r_aload_n C rfl dX6_digest_46 ?_
            refine r_iload_n C rfl dX6_digest_47 ?_
            refine r_iload C rfl dX6_digest_48 ?_
            rw [hz]
            refine r_callV C dX6_digest_50 vw_X6_257 (c_x_person T (k := i) (by omega) (rgm (by omega) (by omega)) hXT) (by decide) rfl ly_0 rfl rfl (Nat.le_of_ble_eq_true rfl) ?_
            intro r T2 hpost
            obtain ⟨rfl, hS2⟩ := hpost
            try dsimp only [Option.toList, List.cons_append, List.nil_append]
            have hS3 := xS_tr hS hS2
            rw [← hz]
            rw [vPer_S hS, hy]
            refine r_i2l C dX6_digest_53 ?_
            refine r_ladd C dX6_digest_54 ?_
            refine r_lstore_n C dX6_digest_55 1 rfl (by decide) rfl ?_
            dsimp only [List.set, Nat.reduceAdd]
            refine r_iinc C dX6_digest_56 rfl (by decide) rfl ?_
            dsimp only [List.set, Nat.reduceAdd]
            refine r_goto C (tgt := 20) dX6_digest_59 rfl ?_
            exact ihw _ _ _ hS3 (by unfold hin; rw [if_pos (by omega), ← hh]; rfl) (by omega)
          · refine r_iload C rfl dX6_digest_34 ?_
            refine r_bipush C rfl dX6_digest_36 ?_
            refine r_icmp_lt C (tgt := 56) dX6_digest_38 rfl (by first | assumption | exact rgm (by omega) (by omega)) (by first | assumption | exact rgm (by omega) (by omega)) (fun h38 => ?_) (fun h38 => ?_)
            · refine r_iinc C dX6_digest_56 rfl (by decide) rfl ?_
              dsimp only [List.set, Nat.reduceAdd]
              refine r_goto C (tgt := 20) dX6_digest_59 rfl ?_
              exact ihw _ _ _ hS (by unfold hin; rw [if_neg (by omega)]; exact hh) (by omega)
            · refine r_ldc2 C dX6_digest_41 kc_X6_255 ?_
              refine r_lload_n C rfl dX6_digest_44 ?_
              refine r_lmul C dX6_digest_45 ?_
              refine r_aload_n C rfl dX6_digest_46 ?_
              refine r_iload_n C rfl dX6_digest_47 ?_
              refine r_iload C rfl dX6_digest_48 ?_
              rw [hz]
              refine r_callV C dX6_digest_50 vw_X6_257 (c_x_person T (k := i) (by omega) (rgm (by omega) (by omega)) hXT) (by decide) rfl ly_0 rfl rfl (Nat.le_of_ble_eq_true rfl) ?_
              intro r T2 hpost
              obtain ⟨rfl, hS2⟩ := hpost
              try dsimp only [Option.toList, List.cons_append, List.nil_append]
              have hS3 := xS_tr hS hS2
              rw [← hz]
              rw [vPer_S hS, hy]
              refine r_i2l C dX6_digest_53 ?_
              refine r_ladd C dX6_digest_54 ?_
              refine r_lstore_n C dX6_digest_55 1 rfl (by decide) rfl ?_
              dsimp only [List.set, Nat.reduceAdd]
              refine r_iinc C dX6_digest_56 rfl (by decide) rfl ?_
              dsimp only [List.set, Nat.reduceAdd]
              refine r_goto C (tgt := 20) dX6_digest_59 rfl ?_
              exact ihw _ _ _ hS3 (by unfold hin; rw [if_pos (by omega), ← hh]; rfl) (by omega)
      have e3 := hS0.1 3 (by omega)
      have e34 := congrFun e3 4
      have e35 := congrFun e3 5
      have e11 := congrFun (hS0.1 1 (by omega)) 1
      refine r_iload_n C rfl dX6_digest_6 ?_
      refine r_aload_n C rfl dX6_digest_7 ?_
      refine r_getr C dX6_digest_8 fl_X6_19 ly_0 rfl ?_
      refine r_geti C dX6_digest_11 fl_X6_244 ly_3 rfl ?_
      refine r_icmp_ge C (tgt := 68) dX6_digest_14 rfl (by first | assumption | exact rgm (by omega) (by omega)) (by first | assumption | exact rgm (by omega) (by omega)) (fun h14 => absurd h14 (by omega)) (fun h14 => ?_)
      refine r_iconst C dX6_digest_17 ?_
      refine r_istore C dX6_digest_18 4 rfl (by decide) rfl ?_
      dsimp only [List.set, Nat.reduceAdd]
      exact lpw 0 (by omega) _ _ _ hS0 (by rw [hh0]; rfl) rfl
  refine r_ldc2 C dX6_digest_0 kc_X6_253 ?_
  refine r_lstore_n C dX6_digest_3 1 rfl (by decide) rfl ?_
  dsimp only [List.set, Nat.reduceAdd]
  refine r_iconst C dX6_digest_4 ?_
  refine r_istore_n C dX6_digest_5 3 rfl (by decide) rfl ?_
  dsimp only [List.set, Nat.reduceAdd]
  exact lpr 0 (Nat.zero_le _) _ _ _ _ xS_rf rfl rfl
