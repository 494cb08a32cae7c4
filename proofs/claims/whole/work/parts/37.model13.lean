
theorem fM_S {M T : Mm_} (h : mS M T) (dr : Bool) : fM T 52 dr = fM M 52 dr := by
  have e49 := h.1 49 (by omega) (by omega) (by omega) (by omega) (by omega)
  have e50 := h.1 50 (by omega) (by omega) (by omega) (by omega) (by omega)
  have e51 := h.1 51 (by omega) (by omega) (by omega) (by omega) (by omega)
  have e52 := h.1 52 (by omega) (by omega) (by omega) (by omega) (by omega)
  have e53 := h.1 53 (by omega) (by omega) (by omega) (by omega) (by omega)
  have e54 := h.1 54 (by omega) (by omega) (by omega) (by omega) (by omega)
  have e55 := h.1 55 (by omega) (by omega) (by omega) (by omega) (by omega)
  have e56 := h.1 56 (by omega) (by omega) (by omega) (by omega) (by omega)
  have e60 := h.1 60 (by omega) (by omega) (by omega) (by omega) (by omega)
  have f1 := h.2.1 1 (by omega) (by omega)
  have f3 := h.2.1 3 (by omega) (by omega)
  have f4 := h.2.1 4 (by omega) (by omega)
  have f5 := h.2.1 5 (by omega) (by omega)
  have f6 := h.2.1 6 (by omega) (by omega)
  have f7 := h.2.1 7 (by omega) (by omega)
  have f8 := h.2.1 8 (by omega) (by omega)
  have f9 := h.2.1 9 (by omega) (by omega)
  have f18 := h.2.1 18 (by omega) (by omega)
  have f21 := h.2.1 21 (by omega) (by omega)
  have f22 := h.2.1 22 (by omega) (by omega)
  unfold fM pdM ppM
  simp only [e49, e50, e51, e52, e53, e54, e55, e56, e60, f1, f3, f4, f5, f6, f7, f8, f9, f18, f21, f22]
theorem seatM_S {M T : Mm_} (h : mS M T) (k : Nat) : seatM T k = seatM M k := by
  have e49 := h.1 49 (by omega) (by omega) (by omega) (by omega) (by omega)
  have e50 := h.1 50 (by omega) (by omega) (by omega) (by omega) (by omega)
  have e51 := h.1 51 (by omega) (by omega) (by omega) (by omega) (by omega)
  have e52 := h.1 52 (by omega) (by omega) (by omega) (by omega) (by omega)
  have e53 := h.1 53 (by omega) (by omega) (by omega) (by omega) (by omega)
  have e54 := h.1 54 (by omega) (by omega) (by omega) (by omega) (by omega)
  have e55 := h.1 55 (by omega) (by omega) (by omega) (by omega) (by omega)
  have e56 := h.1 56 (by omega) (by omega) (by omega) (by omega) (by omega)
  have e60 := h.1 60 (by omega) (by omega) (by omega) (by omega) (by omega)
  have f1 := h.2.1 1 (by omega) (by omega)
  have f3 := h.2.1 3 (by omega) (by omega)
  have f4 := h.2.1 4 (by omega) (by omega)
  have f5 := h.2.1 5 (by omega) (by omega)
  have f6 := h.2.1 6 (by omega) (by omega)
  have f7 := h.2.1 7 (by omega) (by omega)
  have f8 := h.2.1 8 (by omega) (by omega)
  have f9 := h.2.1 9 (by omega) (by omega)
  have f18 := h.2.1 18 (by omega) (by omega)
  have f21 := h.2.1 21 (by omega) (by omega)
  have f22 := h.2.1 22 (by omega) (by omega)
  funext q
  unfold seatM fM pdM ppM
  simp only [mR_eq, mR_ne (show (48 : Nat) ≠ 51 by decide), mR_ne (show (52 : Nat) ≠ 51 by decide), mR_ne (show (56 : Nat) ≠ 51 by decide), e49, e50, e51, e52, e53, e54, e55, e56, e60, f1, f3, f4, f5, f6, f7, f8, f9, f18, f21, f22]
theorem prM4_S {M T : Mm_} (h : mS M T) (k : Nat) : prM4 T k = prM4 M k := by
  have e49 := h.1 49 (by omega) (by omega) (by omega) (by omega) (by omega)
  have e50 := h.1 50 (by omega) (by omega) (by omega) (by omega) (by omega)
  have e51 := h.1 51 (by omega) (by omega) (by omega) (by omega) (by omega)
  have e52 := h.1 52 (by omega) (by omega) (by omega) (by omega) (by omega)
  have e53 := h.1 53 (by omega) (by omega) (by omega) (by omega) (by omega)
  have e54 := h.1 54 (by omega) (by omega) (by omega) (by omega) (by omega)
  have e55 := h.1 55 (by omega) (by omega) (by omega) (by omega) (by omega)
  have e56 := h.1 56 (by omega) (by omega) (by omega) (by omega) (by omega)
  have e60 := h.1 60 (by omega) (by omega) (by omega) (by omega) (by omega)
  have f1 := h.2.1 1 (by omega) (by omega)
  have f3 := h.2.1 3 (by omega) (by omega)
  have f4 := h.2.1 4 (by omega) (by omega)
  have f5 := h.2.1 5 (by omega) (by omega)
  have f6 := h.2.1 6 (by omega) (by omega)
  have f7 := h.2.1 7 (by omega) (by omega)
  have f8 := h.2.1 8 (by omega) (by omega)
  have f9 := h.2.1 9 (by omega) (by omega)
  have f18 := h.2.1 18 (by omega) (by omega)
  have f21 := h.2.1 21 (by omega) (by omega)
  have f22 := h.2.1 22 (by omega) (by omega)
  unfold prM4 swM shM sbM
  simp only [e49, e50, e51, e52, e53, e54, e55, e56, e60, f1, f3, f4, f5, f6, f7, f8, f9, f18, f21, f22]
theorem vPerM_S {M T : Mm_} (h : mS M T) (k : Nat) (w : Int) : vPerM T k w = vPerM M k w := by
  have e49 := h.1 49 (by omega) (by omega) (by omega) (by omega) (by omega)
  have e50 := h.1 50 (by omega) (by omega) (by omega) (by omega) (by omega)
  have e51 := h.1 51 (by omega) (by omega) (by omega) (by omega) (by omega)
  have e52 := h.1 52 (by omega) (by omega) (by omega) (by omega) (by omega)
  have e53 := h.1 53 (by omega) (by omega) (by omega) (by omega) (by omega)
  have e54 := h.1 54 (by omega) (by omega) (by omega) (by omega) (by omega)
  have e55 := h.1 55 (by omega) (by omega) (by omega) (by omega) (by omega)
  have e56 := h.1 56 (by omega) (by omega) (by omega) (by omega) (by omega)
  have e60 := h.1 60 (by omega) (by omega) (by omega) (by omega) (by omega)
  have f1 := h.2.1 1 (by omega) (by omega)
  have f3 := h.2.1 3 (by omega) (by omega)
  have f4 := h.2.1 4 (by omega) (by omega)
  have f5 := h.2.1 5 (by omega) (by omega)
  have f6 := h.2.1 6 (by omega) (by omega)
  have f7 := h.2.1 7 (by omega) (by omega)
  have f8 := h.2.1 8 (by omega) (by omega)
  have f9 := h.2.1 9 (by omega) (by omega)
  have f18 := h.2.1 18 (by omega) (by omega)
  have f21 := h.2.1 21 (by omega) (by omega)
  have f22 := h.2.1 22 (by omega) (by omega)
  unfold vPerM kdM prM
  rw [seatM_S h, prM4_S h]
  simp only [e49, e50, e51, e52, e53, e54, e55, e56, e60, f1, f3, f4, f5, f6, f7, f8, f9, f18, f21, f22]
theorem hitM_S {M T : Mm_} (h : mS M T) (k n : Nat) : hitM T k n = hitM M k n := by
  have e49 := h.1 49 (by omega) (by omega) (by omega) (by omega) (by omega)
  have e50 := h.1 50 (by omega) (by omega) (by omega) (by omega) (by omega)
  have e51 := h.1 51 (by omega) (by omega) (by omega) (by omega) (by omega)
  have e52 := h.1 52 (by omega) (by omega) (by omega) (by omega) (by omega)
  have e53 := h.1 53 (by omega) (by omega) (by omega) (by omega) (by omega)
  have e54 := h.1 54 (by omega) (by omega) (by omega) (by omega) (by omega)
  have e55 := h.1 55 (by omega) (by omega) (by omega) (by omega) (by omega)
  have e56 := h.1 56 (by omega) (by omega) (by omega) (by omega) (by omega)
  have e60 := h.1 60 (by omega) (by omega) (by omega) (by omega) (by omega)
  have f1 := h.2.1 1 (by omega) (by omega)
  have f3 := h.2.1 3 (by omega) (by omega)
  have f4 := h.2.1 4 (by omega) (by omega)
  have f5 := h.2.1 5 (by omega) (by omega)
  have f6 := h.2.1 6 (by omega) (by omega)
  have f7 := h.2.1 7 (by omega) (by omega)
  have f8 := h.2.1 8 (by omega) (by omega)
  have f9 := h.2.1 9 (by omega) (by omega)
  have f18 := h.2.1 18 (by omega) (by omega)
  have f21 := h.2.1 21 (by omega) (by omega)
  have f22 := h.2.1 22 (by omega) (by omega)
  unfold hitM
  simp only [FM_S h, grM_S h, e49, e50, e51, e52, e53, e54, e55, e56, e60, f1, f3, f4, f5, f6, f7, f8, f9, f18, f21, f22]
theorem vPailM_S {M T : Mm_} (h : mS M T) (k : Nat) (w : Int) : vPailM T k w = vPailM M k w := by
  have e49 := h.1 49 (by omega) (by omega) (by omega) (by omega) (by omega)
  have e50 := h.1 50 (by omega) (by omega) (by omega) (by omega) (by omega)
  have e51 := h.1 51 (by omega) (by omega) (by omega) (by omega) (by omega)
  have e52 := h.1 52 (by omega) (by omega) (by omega) (by omega) (by omega)
  have e53 := h.1 53 (by omega) (by omega) (by omega) (by omega) (by omega)
  have e54 := h.1 54 (by omega) (by omega) (by omega) (by omega) (by omega)
  have e55 := h.1 55 (by omega) (by omega) (by omega) (by omega) (by omega)
  have e56 := h.1 56 (by omega) (by omega) (by omega) (by omega) (by omega)
  have e60 := h.1 60 (by omega) (by omega) (by omega) (by omega) (by omega)
  have f1 := h.2.1 1 (by omega) (by omega)
  have f3 := h.2.1 3 (by omega) (by omega)
  have f4 := h.2.1 4 (by omega) (by omega)
  have f5 := h.2.1 5 (by omega) (by omega)
  have f6 := h.2.1 6 (by omega) (by omega)
  have f7 := h.2.1 7 (by omega) (by omega)
  have f8 := h.2.1 8 (by omega) (by omega)
  have f9 := h.2.1 9 (by omega) (by omega)
  have f18 := h.2.1 18 (by omega) (by omega)
  have f21 := h.2.1 21 (by omega) (by omega)
  have f22 := h.2.1 22 (by omega) (by omega)
  unfold vPailM
  rw [fM_S h, hitM_S h]
  simp only [e49, e50, e51, e52, e53, e54, e55, e56, e60, f1, f3, f4, f5, f6, f7, f8, f9, f18, f21, f22]
theorem wonM_S {M T : Mm_} (h : mS M T) : wonM T = wonM M := by
  have e49 := h.1 49 (by omega) (by omega) (by omega) (by omega) (by omega)
  have e50 := h.1 50 (by omega) (by omega) (by omega) (by omega) (by omega)
  have e51 := h.1 51 (by omega) (by omega) (by omega) (by omega) (by omega)
  have e52 := h.1 52 (by omega) (by omega) (by omega) (by omega) (by omega)
  have e53 := h.1 53 (by omega) (by omega) (by omega) (by omega) (by omega)
  have e54 := h.1 54 (by omega) (by omega) (by omega) (by omega) (by omega)
  have e55 := h.1 55 (by omega) (by omega) (by omega) (by omega) (by omega)
  have e56 := h.1 56 (by omega) (by omega) (by omega) (by omega) (by omega)
  have e60 := h.1 60 (by omega) (by omega) (by omega) (by omega) (by omega)
  have f1 := h.2.1 1 (by omega) (by omega)
  have f3 := h.2.1 3 (by omega) (by omega)
  have f4 := h.2.1 4 (by omega) (by omega)
  have f5 := h.2.1 5 (by omega) (by omega)
  have f6 := h.2.1 6 (by omega) (by omega)
  have f7 := h.2.1 7 (by omega) (by omega)
  have f8 := h.2.1 8 (by omega) (by omega)
  have f9 := h.2.1 9 (by omega) (by omega)
  have f18 := h.2.1 18 (by omega) (by omega)
  have f21 := h.2.1 21 (by omega) (by omega)
  have f22 := h.2.1 22 (by omega) (by omega)
  unfold wonM
  rw [fM_S h]
  simp only [e49, e50, e51, e52, e53, e54, e55, e56, e60, f1, f3, f4, f5, f6, f7, f8, f9, f18, f21, f22]
theorem vCountM_S {M T : Mm_} (h : mS M T) (w : Int) : vCountM T w = vCountM M w := by
  have e49 := h.1 49 (by omega) (by omega) (by omega) (by omega) (by omega)
  have e50 := h.1 50 (by omega) (by omega) (by omega) (by omega) (by omega)
  have e51 := h.1 51 (by omega) (by omega) (by omega) (by omega) (by omega)
  have e52 := h.1 52 (by omega) (by omega) (by omega) (by omega) (by omega)
  have e53 := h.1 53 (by omega) (by omega) (by omega) (by omega) (by omega)
  have e54 := h.1 54 (by omega) (by omega) (by omega) (by omega) (by omega)
  have e55 := h.1 55 (by omega) (by omega) (by omega) (by omega) (by omega)
  have e56 := h.1 56 (by omega) (by omega) (by omega) (by omega) (by omega)
  have e60 := h.1 60 (by omega) (by omega) (by omega) (by omega) (by omega)
  have f1 := h.2.1 1 (by omega) (by omega)
  have f3 := h.2.1 3 (by omega) (by omega)
  have f4 := h.2.1 4 (by omega) (by omega)
  have f5 := h.2.1 5 (by omega) (by omega)
  have f6 := h.2.1 6 (by omega) (by omega)
  have f7 := h.2.1 7 (by omega) (by omega)
  have f8 := h.2.1 8 (by omega) (by omega)
  have f9 := h.2.1 9 (by omega) (by omega)
  have f18 := h.2.1 18 (by omega) (by omega)
  have f21 := h.2.1 21 (by omega) (by omega)
  have f22 := h.2.1 22 (by omega) (by omega)
  unfold vCountM
  rw [wonM_S h]
  simp only [e49, e50, e51, e52, e53, e54, e55, e56, e60, f1, f3, f4, f5, f6, f7, f8, f9, f18, f21, f22]
theorem oM_S {M T : Mm_} (h : mS M T) (hM : oM M) : oM T := oM_W (mW_S h) hM
def dgM (M : Mm_) : Int64 := dgF (M.1 48 3).toNat (M.1 48 4).toNat (fun i w => vPerM M i (w : Int)) (fun i w => vPailM M i (w : Int)) (fun i => fM M 52 true (i : Int)) (M.1 55) (whoM M (wonM M) (3 * M.1 48 3).toNat) (M.1 48 1).toNat (M.1 49) (fun w => vCountM M (w : Int))
theorem mS_hst {M T U : Mm_} {x : Int64} {v : Int} (h1 : mS (M.1, x) T) (h2 : mS T U) : mS (M.1, hst x v) (U.1, 31 * U.2 + (zI v).toInt64) := by
  have h := mS_tr h1 h2
  refine ⟨h.1, h.2.1, ?_⟩
  show 31 * U.2 + (zI v).toInt64 = 31 * x + (zI v).toInt64
  rw [h.2.2]

set_option maxRecDepth 10000 in
set_option maxHeartbeats 1000000 in
theorem c_say (T : Mm_) (x : Int64) : Cn 0 kX7_say [.ref 48, .long x] T (pV (T.1, 31 * T.2 + x)) := by
  refine Cn.of rfl (Nat.le_of_ble_eq_true rfl) (fun G C E => ?_)
  show G 0 [.ref 48, .long x, .null] [] T
  refine r_aload_n C rfl dX7_say_0 ?_
  refine r_ldc2 C dX7_say_1 kc_X7_319 ?_
  refine r_aload_n C rfl dX7_say_4 ?_
  refine r_getl C dX7_say_5 fl_X7_321 ly_48 rfl ?_
  refine r_lmul C dX7_say_8 ?_
  refine r_lload_n C rfl dX7_say_9 ?_
  refine r_ladd C dX7_say_10 ?_
  refine r_putL C dX7_say_11 fl_X7_321 ?_
  exact r_vret E dX7_say_14 ⟨rfl, rfl⟩
set_option maxRecDepth 10000 in
set_option maxHeartbeats 1000000 in
theorem c_sayValley {V M : Mm_} {x : Int64} (hSV : mS (M.1, x) V) (hM : oM M) : Cn 4 kX7_sayValley [.ref 48] V (fun r U => r = none ∧ mS (M.1, hst (hfo (M.1 55) 4 (hfo (fun i => fM M 52 true (i : Int)) 6 x)) (whoM M (wonM M) (3 * M.1 48 3).toNat)) U) := by
  have hv := hM.2.1
  refine Cn.of rfl (Nat.le_of_ble_eq_true rfl) (fun G C E => ?_)
  show G 0 [.ref 48, .null] [] V
  have lp2 : ∀ i : Nat, i ≤ 4 → ∀ (T : Mm_) (z : Int), mS (M.1, (hfo (M.1 55) i (hfo (fun i => fM M 52 true (i : Int)) 6 x))) T → z = i → G 26 [.ref 48, .int (zI z)] [] T := by
    refine lpN 4 ?_ ?_
    · intro T z hS hz
      have hM3 : oM T := oM_S hS hM
      have e2 : wonM T = wonM M := (wonM_S hS).trans rfl
      have hWb := WDc_b (T.1 53) (fM T 52 true) (T.1 48 4).toNat (by have hv9 : (T.1 48 3 = 0 ∧ T.1 48 4 = 0) ∨ (2 ≤ T.1 48 3 ∧ T.1 48 3 ≤ 4 ∧ 2 ≤ T.1 48 4 ∧ T.1 48 4 ≤ 6) := hM3.2.1; omega)
      refine r_iload_n C rfl dX7_sayValley_26 ?_
      refine r_iconst C dX7_sayValley_27 ?_
      refine r_icmp_ge C (tgt := 48) dX7_sayValley_28 rfl (by first | assumption | exact rgm (by omega) (by omega)) (by first | assumption | exact rgm (by omega) (by omega)) (fun h28 => ?_) (fun h28 => absurd h28 (by omega))
      refine r_aload_n C rfl dX7_sayValley_48 ?_
      refine r_aload_n C rfl dX7_sayValley_49 ?_
      refine r_aload_n C rfl dX7_sayValley_50 ?_
      refine r_cVz C dX7_sayValley_51 vw_X7_166 (c_wouldNow T hM3.2.1 hM3.2.2.2.1 hM3.2.2.2.2.1) (by decide) rfl ly_48 rfl rfl (Nat.le_of_ble_eq_true rfl) ?_
      rw [show WDc (T.1 53) (fM T 52 true) (T.1 48 4).toNat = wonM M from e2]
      refine r_callV C dX7_sayValley_54 vw_X7_268 (c_whoOf (M := (M.1, (hfo (M.1 55) 4 (hfo (fun i => fM M 52 true (i : Int)) 6 x)))) (V := T) (q := wonM M) hS (rgm (by rw [← e2]; have := hWb.1; show (-2147483648 : Int) ≤ WDc (T.1 53) (fM T 52 true) (T.1 48 4).toNat; omega) (by rw [← e2]; have := hWb.2; show WDc (T.1 53) (fM T 52 true) (T.1 48 4).toNat < (2147483648 : Int); omega)) hM) (by decide) rfl ly_48 rfl rfl (Nat.le_of_ble_eq_true rfl) ?_
      intro r U h
      obtain ⟨rfl, hSU⟩ := h
      dsimp only [Option.toList, List.cons_append, List.nil_append]
      refine r_i2l C dX7_sayValley_57 ?_
      refine r_cVv C dX7_sayValley_58 vw_X7_325 (c_say U _) (by decide) rfl ly_48 rfl rfl (Nat.le_of_ble_eq_true rfl) ?_
      exact r_vret E dX7_sayValley_61 ⟨rfl, mS_hst mS_rf hSU⟩
    · intro i hi ih T z hS hz
      have e55 := hS.1 55 (by omega) (by omega) (by omega) (by omega) (by omega)
      refine r_iload_n C rfl dX7_sayValley_26 ?_
      refine r_iconst C dX7_sayValley_27 ?_
      refine r_icmp_ge C (tgt := 48) dX7_sayValley_28 rfl (by first | assumption | exact rgm (by omega) (by omega)) (by first | assumption | exact rgm (by omega) (by omega)) (fun h28 => absurd h28 (by omega)) (fun h28 => ?_)
      refine r_aload_n C rfl dX7_sayValley_31 ?_
      refine r_aload_n C rfl dX7_sayValley_32 ?_
      refine r_getr C dX7_sayValley_33 fl_X7_28 ly_48 rfl ?_
      refine r_iload_n C rfl dX7_sayValley_36 ?_
      refine r_iald C dX7_sayValley_37 ly_55 hz (by omega) ?_
      rw [e55]
      refine r_i2l C dX7_sayValley_38 ?_
      refine r_cVv C dX7_sayValley_39 vw_X7_325 (c_say T _) (by decide) rfl ly_48 rfl rfl (Nat.le_of_ble_eq_true rfl) ?_
      refine r_iinc C dX7_sayValley_42 rfl (by decide) rfl ?_
      dsimp only [List.set, Nat.reduceAdd]
      refine r_goto C (tgt := 26) dX7_sayValley_45 rfl ?_
      exact ih _ _ (mS_hst hS mS_rf) (by omega)
  have lp : ∀ i : Nat, i ≤ 6 → ∀ (T : Mm_) (z : Int), mS (M.1, (hfo (fun i => fM M 52 true (i : Int)) i x)) T → z = i → G 2 [.ref 48, .int (zI z)] [] T := by
    refine lpN 6 ?_ ?_
    · intro T z hS hz
      refine r_iload_n C rfl dX7_sayValley_2 ?_
      refine r_bipush C rfl dX7_sayValley_3 ?_
      refine r_icmp_ge C (tgt := 24) dX7_sayValley_5 rfl (by first | assumption | exact rgm (by omega) (by omega)) (by first | assumption | exact rgm (by omega) (by omega)) (fun h5 => ?_) (fun h5 => absurd h5 (by omega))
      refine r_iconst C dX7_sayValley_24 ?_
      refine r_istore_n C dX7_sayValley_25 1 rfl (by decide) rfl ?_
      dsimp only [List.set, Nat.reduceAdd]
      exact lp2 0 (by omega) _ _ hS rfl
    · intro i hi ih T z hS hz
      have hM3 : oM T := oM_S hS hM
      refine r_iload_n C rfl dX7_sayValley_2 ?_
      refine r_bipush C rfl dX7_sayValley_3 ?_
      refine r_icmp_ge C (tgt := 24) dX7_sayValley_5 rfl (by first | assumption | exact rgm (by omega) (by omega)) (by first | assumption | exact rgm (by omega) (by omega)) (fun h5 => absurd h5 (by omega)) (fun h5 => ?_)
      refine r_aload_n C rfl dX7_sayValley_8 ?_
      refine r_aload_n C rfl dX7_sayValley_9 ?_
      refine r_iload_n C rfl dX7_sayValley_10 ?_
      refine r_cVz C dX7_sayValley_11 vw_X7_196 (c_forceAtM T (by omega) hM3.2.1 hM3.2.2.2.1 hM3.2.2.2.2.1) (by decide) rfl ly_48 rfl rfl (Nat.le_of_ble_eq_true rfl) ?_
      rw [fM_S hS, show fM (M.1, (hfo (fun i => fM M 52 true (i : Int)) i x)) 52 true z = fM M 52 true (i : Int) by rw [hz]; rfl]
      refine r_i2l C dX7_sayValley_14 ?_
      refine r_cVv C dX7_sayValley_15 vw_X7_325 (c_say T _) (by decide) rfl ly_48 rfl rfl (Nat.le_of_ble_eq_true rfl) ?_
      refine r_iinc C dX7_sayValley_18 rfl (by decide) rfl ?_
      dsimp only [List.set, Nat.reduceAdd]
      refine r_goto C (tgt := 2) dX7_sayValley_21 rfl ?_
      exact ih _ _ (mS_hst hS mS_rf) (by omega)
  refine r_iconst C dX7_sayValley_0 ?_
  refine r_istore_n C dX7_sayValley_1 1 rfl (by decide) rfl ?_
  dsimp only [List.set, Nat.reduceAdd]
  exact lp 0 (by omega) _ _ hSV rfl
set_option maxRecDepth 10000 in
set_option maxHeartbeats 1000000 in
theorem c_m_digest (M : Mm_) (hM : oM M) : Cn 6 kX7_digest [.ref 48] M (fun r U => r = some (.long (dgM M)) ∧ ∃ x, mS (M.1, x) U) := by
  obtain ⟨hpg, hv, hrw, hf, hg, hse, hbo, hst_, hni⟩ := id hM
  have hM0 := hM
  have hv0 : (M.1 48 3 = 0 ∧ M.1 48 4 = 0) ∨ (2 ≤ M.1 48 3 ∧ M.1 48 3 ≤ 4 ∧ 2 ≤ M.1 48 4 ∧ M.1 48 4 ≤ 6) := hv
  obtain ⟨n, en⟩ : ∃ n : Nat, M.1 48 3 = n := ⟨(M.1 48 3).toNat, by omega⟩
  obtain ⟨m, em⟩ : ∃ m : Nat, M.1 48 4 = m := ⟨(M.1 48 4).toNat, by omega⟩
  have hp1 := hpg.1
  obtain ⟨p, ep⟩ := Int.eq_ofNat_of_zero_le hp1.1
  have edg : dgM M = (hfo (fun w => vCountM M ((w : Nat) : Int)) 15 (hfo (M.1 49) p (if 0 < n then hst (hfo (M.1 55) 4 (hfo (fun i => fM M 52 true ((i : Nat) : Int)) 6 (hoq (fun i w => vPailM M i ((w : Nat) : Int)) m (hou (fun i w => vPerM M i ((w : Nat) : Int)) n 1123)))) (whoM M (wonM M) (3 * M.1 48 3).toNat) else hoq (fun i w => vPailM M i ((w : Nat) : Int)) m (hou (fun i w => vPerM M i ((w : Nat) : Int)) n 1123)))) := by
    unfold dgM dgF
    rw [show (M.1 48 3).toNat = n by omega, show (M.1 48 4).toNat = m by omega, show (M.1 48 1).toNat = p by omega]
  refine Cn.of rfl (Nat.le_of_ble_eq_true rfl) (fun G C E => ?_)
  show G 0 [.ref 48, .null, .null] [] M
  have l5 : ∀ i : Nat, i ≤ 15 → ∀ (T : Mm_) (z : Int) (v2 : Value), mS (M.1, (hfo (fun w => vCountM M ((w : Nat) : Int)) i (hfo (M.1 49) p (if 0 < n then hst (hfo (M.1 55) 4 (hfo (fun i => fM M 52 true ((i : Nat) : Int)) 6 (hoq (fun i w => vPailM M i ((w : Nat) : Int)) m (hou (fun i w => vPerM M i ((w : Nat) : Int)) n 1123)))) (whoM M (wonM M) (3 * M.1 48 3).toNat) else hoq (fun i w => vPailM M i ((w : Nat) : Int)) m (hou (fun i w => vPerM M i ((w : Nat) : Int)) n 1123))))) T → z = i → G 135 [.ref 48, .int (zI z), v2] [] T := by
    refine lpN (15) ?_ ?_
    · intro T z v2 hS hz
      have f1 : T.1 48 1 = M.1 48 1 := hS.2.1 1 (by omega) (by omega)
      have f3 : T.1 48 3 = M.1 48 3 := hS.2.1 3 (by omega) (by omega)
      have f4 : T.1 48 4 = M.1 48 4 := hS.2.1 4 (by omega) (by omega)
      refine r_iload_n C rfl dX7_digest_135 ?_
      refine r_bipush C rfl dX7_digest_136 ?_
      refine r_icmp_ge C (tgt := 157) dX7_digest_138 rfl (by first | assumption | exact rgm (by omega) (by omega)) (by first | assumption | exact rgm (by omega) (by omega)) (fun h138 => ?_) (fun h138 => absurd h138 (by omega))
      refine r_aload_n C rfl dX7_digest_157 ?_
      refine r_getl C dX7_digest_158 fl_X7_321 ly_48 rfl ?_
      exact r_lret E dX7_digest_161 ⟨by rw [edg, hS.2.2], _, hS⟩
    · intro i hi ih T z v2 hS hz
      have f1 : T.1 48 1 = M.1 48 1 := hS.2.1 1 (by omega) (by omega)
      have f3 : T.1 48 3 = M.1 48 3 := hS.2.1 3 (by omega) (by omega)
      have f4 : T.1 48 4 = M.1 48 4 := hS.2.1 4 (by omega) (by omega)
      have hM3 : oM T := oM_S hS hM0
      have e49 := hS.1 49 (by omega) (by omega) (by omega) (by omega) (by omega)
      subst hz
      refine r_iload_n C rfl dX7_digest_135 ?_
      refine r_bipush C rfl dX7_digest_136 ?_
      refine r_icmp_ge C (tgt := 157) dX7_digest_138 rfl (by first | assumption | exact rgm (by omega) (by omega)) (by first | assumption | exact rgm (by omega) (by omega)) (fun h138 => absurd h138 (by omega)) (fun h138 => ?_)
      refine r_aload_n C rfl dX7_digest_141 ?_
      refine r_aload_n C rfl dX7_digest_142 ?_
      refine r_iload_n C rfl dX7_digest_143 ?_
      refine r_cVz C dX7_digest_144 vw_X7_316 (c_countOf T (rgm (by omega) (by omega)) hM3) (by decide) rfl ly_48 rfl rfl (Nat.le_of_ble_eq_true rfl) ?_
      rw [vCountM_S hS]
      refine r_i2l C dX7_digest_147 ?_
      refine r_cVv C dX7_digest_148 vw_X7_325 (c_say T _) (by decide) rfl ly_48 rfl rfl (Nat.le_of_ble_eq_true rfl) ?_
      refine r_iinc C dX7_digest_151 rfl (by decide) rfl ?_
      dsimp only [List.set, Nat.reduceAdd]
      refine r_goto C (tgt := 135) dX7_digest_154 rfl ?_
      exact ih _ _ _ (mS_hst hS mS_rf) (by omega)
  have l4 : ∀ i : Nat, i ≤ p → ∀ (T : Mm_) (z : Int) (v2 : Value), mS (M.1, (hfo (M.1 49) i (if 0 < n then hst (hfo (M.1 55) 4 (hfo (fun i => fM M 52 true ((i : Nat) : Int)) 6 (hoq (fun i w => vPailM M i ((w : Nat) : Int)) m (hou (fun i w => vPerM M i ((w : Nat) : Int)) n 1123)))) (whoM M (wonM M) (3 * M.1 48 3).toNat) else hoq (fun i w => vPailM M i ((w : Nat) : Int)) m (hou (fun i w => vPerM M i ((w : Nat) : Int)) n 1123)))) T → z = i → G 108 [.ref 48, .int (zI z), v2] [] T := by
    refine lpN (p) ?_ ?_
    · intro T z v2 hS hz
      have f1 : T.1 48 1 = M.1 48 1 := hS.2.1 1 (by omega) (by omega)
      have f3 : T.1 48 3 = M.1 48 3 := hS.2.1 3 (by omega) (by omega)
      have f4 : T.1 48 4 = M.1 48 4 := hS.2.1 4 (by omega) (by omega)
      refine r_iload_n C rfl dX7_digest_108 ?_
      refine r_aload_n C rfl dX7_digest_109 ?_
      refine r_geti C dX7_digest_110 fl_X7_80 ly_48 rfl ?_
      refine r_icmp_ge C (tgt := 133) dX7_digest_113 rfl (by first | assumption | exact rgm (by omega) (by omega)) (by first | assumption | exact rgm (by omega) (by omega)) (fun h113 => ?_) (fun h113 => absurd h113 (by omega))
      refine r_iconst C dX7_digest_133 ?_
      refine r_istore_n C dX7_digest_134 1 rfl (by decide) rfl ?_
      dsimp only [List.set, Nat.reduceAdd]
      exact l5 0 (by omega) _ _ _ hS rfl
    · intro i hi ih T z v2 hS hz
      have f1 : T.1 48 1 = M.1 48 1 := hS.2.1 1 (by omega) (by omega)
      have f3 : T.1 48 3 = M.1 48 3 := hS.2.1 3 (by omega) (by omega)
      have f4 : T.1 48 4 = M.1 48 4 := hS.2.1 4 (by omega) (by omega)
      have hM3 : oM T := oM_S hS hM0
      have e49 := hS.1 49 (by omega) (by omega) (by omega) (by omega) (by omega)
      subst hz
      refine r_iload_n C rfl dX7_digest_108 ?_
      refine r_aload_n C rfl dX7_digest_109 ?_
      refine r_geti C dX7_digest_110 fl_X7_80 ly_48 rfl ?_
      refine r_icmp_ge C (tgt := 133) dX7_digest_113 rfl (by first | assumption | exact rgm (by omega) (by omega)) (by first | assumption | exact rgm (by omega) (by omega)) (fun h113 => absurd h113 (by omega)) (fun h113 => ?_)
      refine r_aload_n C rfl dX7_digest_116 ?_
      refine r_aload_n C rfl dX7_digest_117 ?_
      refine r_getr C dX7_digest_118 fl_X7_7 ly_48 rfl ?_
      refine r_iload_n C rfl dX7_digest_121 ?_
      refine r_iald C dX7_digest_122 ly_49 rfl (by omega) ?_
      rw [e49]
      refine r_i2l C dX7_digest_123 ?_
      refine r_cVv C dX7_digest_124 vw_X7_325 (c_say T _) (by decide) rfl ly_48 rfl rfl (Nat.le_of_ble_eq_true rfl) ?_
      refine r_iinc C dX7_digest_127 rfl (by decide) rfl ?_
      dsimp only [List.set, Nat.reduceAdd]
      refine r_goto C (tgt := 108) dX7_digest_130 rfl ?_
      exact ih _ _ _ (mS_hst hS mS_rf) (by omega)
  have mid : ∀ (T : Mm_) (v1 v2 : Value), mS (M.1, (hoq (fun i w => vPailM M i ((w : Nat) : Int)) m (hou (fun i w => vPerM M i ((w : Nat) : Int)) n 1123))) T → G 95 [.ref 48, v1, v2] [] T := by
    intro T v1 v2 hS
    have f3 : T.1 48 3 = M.1 48 3 := hS.2.1 3 (by omega) (by omega)
    have hM3 : oM T := oM_S hS hM0
    refine r_aload_n C rfl dX7_digest_95 ?_
    refine r_cVb C dX7_digest_96 vw_X7_133 (c_lacks T hM3.2.1) (by decide) rfl ly_48 rfl rfl (Nat.le_of_ble_eq_true rfl) (fun h96 => ?_) (fun h96 => ?_)
    · refine r_if_ne C (tgt := 106) dX7_digest_99 rfl (by first | assumption | exact rgm (by omega) (by omega)) (fun h99 => ?_) (fun h99 => absurd h99 (by decide))
      refine r_iconst C dX7_digest_106 ?_
      refine r_istore_n C dX7_digest_107 1 rfl (by decide) rfl ?_
      dsimp only [List.set, Nat.reduceAdd]
      refine l4 0 (Nat.zero_le _) _ _ _ ?_ rfl
      show mS (M.1, (if 0 < n then hst (hfo (M.1 55) 4 (hfo (fun i => fM M 52 true ((i : Nat) : Int)) 6 (hoq (fun i w => vPailM M i ((w : Nat) : Int)) m (hou (fun i w => vPerM M i ((w : Nat) : Int)) n 1123)))) (whoM M (wonM M) (3 * M.1 48 3).toNat) else hoq (fun i w => vPailM M i ((w : Nat) : Int)) m (hou (fun i w => vPerM M i ((w : Nat) : Int)) n 1123))) _
      rw [if_neg (by omega)]; exact hS
    · refine r_if_ne C (tgt := 106) dX7_digest_99 rfl (by first | assumption | exact rgm (by omega) (by omega)) (fun h99 => absurd h99 (by decide)) (fun h99 => ?_)
      refine r_aload_n C rfl dX7_digest_102 ?_
      refine r_callV C dX7_digest_103 vw_X7_331 (c_sayValley hS hM0) (by decide) rfl ly_48 rfl rfl (Nat.le_of_ble_eq_true rfl) ?_
      intro r U h
      obtain ⟨rfl, hSU⟩ := h
      dsimp only [Option.toList, List.cons_append, List.nil_append]
      refine r_iconst C dX7_digest_106 ?_
      refine r_istore_n C dX7_digest_107 1 rfl (by decide) rfl ?_
      dsimp only [List.set, Nat.reduceAdd]
      refine l4 0 (Nat.zero_le _) _ _ _ ?_ rfl
      show mS (M.1, (if 0 < n then hst (hfo (M.1 55) 4 (hfo (fun i => fM M 52 true ((i : Nat) : Int)) 6 (hoq (fun i w => vPailM M i ((w : Nat) : Int)) m (hou (fun i w => vPerM M i ((w : Nat) : Int)) n 1123)))) (whoM M (wonM M) (3 * M.1 48 3).toNat) else hoq (fun i w => vPailM M i ((w : Nat) : Int)) m (hou (fun i w => vPerM M i ((w : Nat) : Int)) n 1123))) _
      rw [if_pos (by omega)]; exact hSU
  have l2 : ∀ i : Nat, i ≤ m → ∀ (T : Mm_) (z : Int) (v2 : Value), mS (M.1, (hoq (fun i w => vPailM M i ((w : Nat) : Int)) i (hou (fun i w => vPerM M i ((w : Nat) : Int)) n 1123))) T → z = i → G 56 [.ref 48, .int (zI z), v2] [] T := by
    refine lpN (m) ?_ ?_
    · intro T z v2 hS hz
      have f1 : T.1 48 1 = M.1 48 1 := hS.2.1 1 (by omega) (by omega)
      have f3 : T.1 48 3 = M.1 48 3 := hS.2.1 3 (by omega) (by omega)
      have f4 : T.1 48 4 = M.1 48 4 := hS.2.1 4 (by omega) (by omega)
      refine r_iload_n C rfl dX7_digest_56 ?_
      refine r_aload_n C rfl dX7_digest_57 ?_
      refine r_geti C dX7_digest_58 fl_X7_112 ly_48 rfl ?_
      refine r_icmp_ge C (tgt := 95) dX7_digest_61 rfl (by first | assumption | exact rgm (by omega) (by omega)) (by first | assumption | exact rgm (by omega) (by omega)) (fun h61 => ?_) (fun h61 => absurd h61 (by omega))
      exact mid _ _ _ hS
    · intro i hi ih T z v2 hS hz
      have f1 : T.1 48 1 = M.1 48 1 := hS.2.1 1 (by omega) (by omega)
      have f3 : T.1 48 3 = M.1 48 3 := hS.2.1 3 (by omega) (by omega)
      have f4 : T.1 48 4 = M.1 48 4 := hS.2.1 4 (by omega) (by omega)
      have hM3 : oM T := oM_S hS hM0
      have e49 := hS.1 49 (by omega) (by omega) (by omega) (by omega) (by omega)
      subst hz
      have k2 : ∀ w : Nat, w ≤ 7 → ∀ (T : Mm_) (y : Int), mS (M.1, (hfo (fun w => vPailM M i ((w : Nat) : Int)) w (hoq (fun i w => vPailM M i ((w : Nat) : Int)) i (hou (fun i w => vPerM M i ((w : Nat) : Int)) n 1123)))) T → y = w → G 66 [.ref 48, .int (zI (i : Int)), .int (zI y)] [] T := by
        refine lpN (7) ?_ ?_
        · intro T y hS hy
          refine r_iload_n C rfl dX7_digest_66 ?_
          refine r_bipush C rfl dX7_digest_67 ?_
          refine r_icmp_ge C (tgt := 89) dX7_digest_69 rfl (by first | assumption | exact rgm (by omega) (by omega)) (by first | assumption | exact rgm (by omega) (by omega)) (fun h69 => ?_) (fun h69 => absurd h69 (by omega))
          refine r_iinc C dX7_digest_89 rfl (by decide) rfl ?_
          dsimp only [List.set, Nat.reduceAdd]
          refine r_goto C (tgt := 56) dX7_digest_92 rfl ?_
          exact ih _ _ _ hS (by omega)
        · intro w hw ih2 T y hS hy
          have hM3 : oM T := oM_S hS hM0
          have f3 : T.1 48 3 = M.1 48 3 := hS.2.1 3 (by omega) (by omega)
          have f4 : T.1 48 4 = M.1 48 4 := hS.2.1 4 (by omega) (by omega)
          subst hy
          refine r_iload_n C rfl dX7_digest_66 ?_
          refine r_bipush C rfl dX7_digest_67 ?_
          refine r_icmp_ge C (tgt := 89) dX7_digest_69 rfl (by first | assumption | exact rgm (by omega) (by omega)) (by first | assumption | exact rgm (by omega) (by omega)) (fun h69 => absurd h69 (by omega)) (fun h69 => ?_)
          refine r_aload_n C rfl dX7_digest_72 ?_
          refine r_aload_n C rfl dX7_digest_73 ?_
          refine r_iload_n C rfl dX7_digest_74 ?_
          refine r_iload_n C rfl dX7_digest_75 ?_
          refine r_callV C dX7_digest_76 vw_X7_228 (c_tellPail T (by omega) (rgm (by omega) (by omega)) hM3) (by decide) rfl ly_48 rfl rfl (Nat.le_of_ble_eq_true rfl) ?_
          intro r U h
          obtain ⟨rfl, hSU⟩ := h
          dsimp only [Option.toList, List.cons_append, List.nil_append]
          rw [vPailM_S hS]
          refine r_i2l C dX7_digest_79 ?_
          refine r_cVv C dX7_digest_80 vw_X7_325 (c_say U _) (by decide) rfl ly_48 rfl rfl (Nat.le_of_ble_eq_true rfl) ?_
          refine r_iinc C dX7_digest_83 rfl (by decide) rfl ?_
          dsimp only [List.set, Nat.reduceAdd]
          refine r_goto C (tgt := 66) dX7_digest_86 rfl ?_
          exact ih2 _ _ (mS_hst hS hSU) (by omega)
      refine r_iload_n C rfl dX7_digest_56 ?_
      refine r_aload_n C rfl dX7_digest_57 ?_
      refine r_geti C dX7_digest_58 fl_X7_112 ly_48 rfl ?_
      refine r_icmp_ge C (tgt := 95) dX7_digest_61 rfl (by first | assumption | exact rgm (by omega) (by omega)) (by first | assumption | exact rgm (by omega) (by omega)) (fun h61 => absurd h61 (by omega)) (fun h61 => ?_)
      refine r_iconst C dX7_digest_64 ?_
      refine r_istore_n C dX7_digest_65 2 rfl (by decide) rfl ?_
      dsimp only [List.set, Nat.reduceAdd]
      exact k2 0 (by omega) _ _ hS rfl
  have l1 : ∀ i : Nat, i ≤ n → ∀ (T : Mm_) (z : Int) (v2 : Value), mS (M.1, (hou (fun i w => vPerM M i ((w : Nat) : Int)) i 1123)) T → z = i → G 9 [.ref 48, .int (zI z), v2] [] T := by
    refine lpN (n) ?_ ?_
    · intro T z v2 hS hz
      have f1 : T.1 48 1 = M.1 48 1 := hS.2.1 1 (by omega) (by omega)
      have f3 : T.1 48 3 = M.1 48 3 := hS.2.1 3 (by omega) (by omega)
      have f4 : T.1 48 4 = M.1 48 4 := hS.2.1 4 (by omega) (by omega)
      refine r_iload_n C rfl dX7_digest_9 ?_
      refine r_aload_n C rfl dX7_digest_10 ?_
      refine r_geti C dX7_digest_11 fl_X7_109 ly_48 rfl ?_
      refine r_icmp_ge C (tgt := 54) dX7_digest_14 rfl (by first | assumption | exact rgm (by omega) (by omega)) (by first | assumption | exact rgm (by omega) (by omega)) (fun h14 => ?_) (fun h14 => absurd h14 (by omega))
      refine r_iconst C dX7_digest_54 ?_
      refine r_istore_n C dX7_digest_55 1 rfl (by decide) rfl ?_
      dsimp only [List.set, Nat.reduceAdd]
      exact l2 0 (Nat.zero_le _) _ _ _ hS rfl
    · intro i hi ih T z v2 hS hz
      have f1 : T.1 48 1 = M.1 48 1 := hS.2.1 1 (by omega) (by omega)
      have f3 : T.1 48 3 = M.1 48 3 := hS.2.1 3 (by omega) (by omega)
      have f4 : T.1 48 4 = M.1 48 4 := hS.2.1 4 (by omega) (by omega)
      have hM3 : oM T := oM_S hS hM0
      have e49 := hS.1 49 (by omega) (by omega) (by omega) (by omega) (by omega)
      subst hz
      have k1 : ∀ w : Nat, w ≤ 13 → ∀ (T : Mm_) (y : Int), mS (M.1, (hin (fun w => vPerM M i ((w : Nat) : Int)) w (hou (fun i w => vPerM M i ((w : Nat) : Int)) i 1123))) T → y = w → G 19 [.ref 48, .int (zI (i : Int)), .int (zI y)] [] T := by
        refine lpN (13) ?_ ?_
        · intro T y hS hy
          refine r_iload_n C rfl dX7_digest_19 ?_
          refine r_bipush C rfl dX7_digest_20 ?_
          refine r_icmp_ge C (tgt := 48) dX7_digest_22 rfl (by first | assumption | exact rgm (by omega) (by omega)) (by first | assumption | exact rgm (by omega) (by omega)) (fun h22 => ?_) (fun h22 => absurd h22 (by omega))
          refine r_iinc C dX7_digest_48 rfl (by decide) rfl ?_
          dsimp only [List.set, Nat.reduceAdd]
          refine r_goto C (tgt := 9) dX7_digest_51 rfl ?_
          exact ih _ _ _ hS (by omega)
        · intro w hw ih2 T y hS hy
          have hM3 : oM T := oM_S hS hM0
          have f3 : T.1 48 3 = M.1 48 3 := hS.2.1 3 (by omega) (by omega)
          have f4 : T.1 48 4 = M.1 48 4 := hS.2.1 4 (by omega) (by omega)
          subst hy
          refine r_iload_n C rfl dX7_digest_19 ?_
          refine r_bipush C rfl dX7_digest_20 ?_
          refine r_icmp_ge C (tgt := 48) dX7_digest_22 rfl (by first | assumption | exact rgm (by omega) (by omega)) (by first | assumption | exact rgm (by omega) (by omega)) (fun h22 => absurd h22 (by omega)) (fun h22 => ?_)
          refine r_iload_n C rfl dX7_digest_25 ?_
          refine r_bipush C rfl dX7_digest_26 ?_
          refine r_icmp_eq C (tgt := 42) dX7_digest_28 rfl (by first | assumption | exact rgm (by omega) (by omega)) (by first | assumption | exact rgm (by omega) (by omega)) (fun h28 => ?_) (fun h28 => ?_)
          · refine r_iinc C dX7_digest_42 rfl (by decide) rfl ?_
            dsimp only [List.set, Nat.reduceAdd]
            refine r_goto C (tgt := 19) dX7_digest_45 rfl ?_
            refine ih2 _ _ ?_ (by omega)
            show mS (M.1, if w ≠ 9 then _ else _) _
            rw [if_neg (by omega)]; exact hS
          · refine r_aload_n C rfl dX7_digest_31 ?_
            refine r_aload_n C rfl dX7_digest_32 ?_
            refine r_iload_n C rfl dX7_digest_33 ?_
            refine r_iload_n C rfl dX7_digest_34 ?_
            refine r_callV C dX7_digest_35 vw_X7_191 (c_tellPerson T (by omega) (rgm (by omega) (by omega)) hM3) (by decide) rfl ly_48 rfl rfl (Nat.le_of_ble_eq_true rfl) ?_
            intro r U h
            obtain ⟨rfl, hSU⟩ := h
            dsimp only [Option.toList, List.cons_append, List.nil_append]
            rw [vPerM_S hS]
            refine r_i2l C dX7_digest_38 ?_
            refine r_cVv C dX7_digest_39 vw_X7_325 (c_say U _) (by decide) rfl ly_48 rfl rfl (Nat.le_of_ble_eq_true rfl) ?_
            refine r_iinc C dX7_digest_42 rfl (by decide) rfl ?_
            dsimp only [List.set, Nat.reduceAdd]
            refine r_goto C (tgt := 19) dX7_digest_45 rfl ?_
            refine ih2 _ _ ?_ (by omega)
            show mS (M.1, if w ≠ 9 then _ else _) _
            rw [if_pos (by omega)]; exact mS_hst hS hSU
      refine r_iload_n C rfl dX7_digest_9 ?_
      refine r_aload_n C rfl dX7_digest_10 ?_
      refine r_geti C dX7_digest_11 fl_X7_109 ly_48 rfl ?_
      refine r_icmp_ge C (tgt := 54) dX7_digest_14 rfl (by first | assumption | exact rgm (by omega) (by omega)) (by first | assumption | exact rgm (by omega) (by omega)) (fun h14 => absurd h14 (by omega)) (fun h14 => ?_)
      refine r_iconst C dX7_digest_17 ?_
      refine r_istore_n C dX7_digest_18 2 rfl (by decide) rfl ?_
      dsimp only [List.set, Nat.reduceAdd]
      exact k1 0 (by omega) _ _ hS rfl
  refine r_aload_n C rfl dX7_digest_0 ?_
  refine r_ldc2 C dX7_digest_1 kc_X7_329 ?_
  refine r_putL C dX7_digest_4 fl_X7_321 ?_
  refine r_iconst C dX7_digest_7 ?_
  refine r_istore_n C dX7_digest_8 1 rfl (by decide) rfl ?_
  dsimp only [List.set, Nat.reduceAdd]
  exact l1 0 (Nat.zero_le _) (M.1, 1123) _ _ mS_rf rfl
