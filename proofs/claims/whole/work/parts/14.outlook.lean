
/-- only the outlook's own cells may differ -/
def xS (M T : Mm_) : Prop := (∀ i, i < 30 ∨ 48 ≤ i → T.1 i = M.1 i) ∧ T.2 = M.2
def tr (T : Mm_) (g p : Nat → Int) (dc : Int) (dr dp : Nat → Int) : Prop := T.1 31 = g ∧ T.1 32 = p ∧ T.1 30 7 = dc ∧ T.1 35 = dr ∧ T.1 36 = dp
theorem xS_rf {M : Mm_} : xS M M := ⟨fun _ _ => rfl, rfl⟩
theorem xS_tr {M T U : Mm_} (h1 : xS M T) (h2 : xS T U) : xS M U := ⟨fun i hi => (h2.1 i hi).trans (h1.1 i hi), h2.2.trans h1.2⟩
theorem xS_U {M : Mm_} {i j : Nat} {z : Int} (hi : 30 ≤ i ∧ i < 48) : xS M (mU M i j z) := ⟨fun a ha => mU_ne (by omega), rfl⟩
theorem xS_R {M : Mm_} {i : Nat} {f : Nat → Int} (hi : 30 ≤ i ∧ i < 48) : xS M (mR M i f) := ⟨fun a ha => mR_ne (by omega), rfl⟩
theorem oV_S {M T : Mm_} (h : xS M T) (hv : oV M) : oV T := by
  unfold oV at hv ⊢
  rw [h.1 3 (by omega), h.1 4 (by omega), h.1 5 (by omega), h.1 6 (by omega), h.1 7 (by omega)]
  exact hv
theorem mForces_tr (M : Mm_) : xS M (mForces M 8 30) ∧ tr (mForces M 8 30) (M.1 9) (M.1 10) (M.1 8 7) (M.1 13) (M.1 14) := by
  refine ⟨?_, ?_⟩
  · unfold mForces
    exact xS_tr (xS_tr (xS_tr (xS_tr (xS_R (by omega)) (xS_R (by omega))) (xS_R (by omega))) (xS_R (by omega))) (xS_U (by omega))
  · refine ⟨?_, ?_, ?_, ?_, ?_⟩ <;> simp [mForces, mU, mR]
theorem c_wouldT {T M : Mm_} {g p : Nat → Int} {dc : Int} {dr dp : Nat → Int} (hS : xS M T) (ht : tr T g p dc dr dp) (hv : oV M) (hf : oF g p dc dr dp) : Cn 2 kX5_allThatWouldSet [.ref 3, .ref 30] T (pZ (WDc (M.1 7) (FA g p dc dr dp) (M.1 3 5).toNat) T) := by
  obtain ⟨t1, t2, t3, t4, t5⟩ := ht
  have h := c_would30 T (oV_S hS hv) (by rw [t1, t2, t3, t4, t5]; exact hf)
  rw [t1, t2, t3, t4, t5, hS.1 3 (by omega), hS.1 7 (by omega)] at h
  exact h
theorem c_wouldSetT {T M : Mm_} {g p : Nat → Int} {dc : Int} {dr dp : Nat → Int} {k : Nat} (hk : (k : Int) < M.1 3 5) (hS : xS M T) (ht : tr T g p dc dr dp) (hv : oV M) (hf : oF g p dc dr dp) : Cn 2 kX5_wouldSet [.ref 3, .ref 30, .int (zI k)] T (pB (M.1 7 k ≤ FA g p dc dr dp k) T) := by
  obtain ⟨t1, t2, t3, t4, t5⟩ := ht
  have h := c_wouldSet30 T (k := k) (by rw [hS.1 3 (by omega)]; exact hk) (oV_S hS hv) (by rw [t1, t2, t3, t4, t5]; exact hf)
  rw [t1, t2, t3, t4, t5, hS.1 7 (by omega)] at h
  exact h
theorem c_offendT {T M : Mm_} {a : Int} {g : Nat → Int} (hS : xS M T) (hg : T.1 31 = g) (h0 : -1 ≤ a) (h1 : a < M.1 3 4 * 3) (hv : oV M) (hb : ∀ i, i < 4 → 0 ≤ g i ∧ g i ≤ 99) : Cn 1 kX5_offend [.ref 3, .ref 30, .int (zI a)] T (pV (mR T 31 (sl1 (M.1 6) a g))) := by
  subst hg
  have h := c_offend30 T (a := a) h0 (by rw [hS.1 3 (by omega)]; exact h1) (oV_S hS hv) hb
  rw [hS.1 6 (by omega)] at h
  exact h
theorem c_nightT {T M : Mm_} {g : Nat → Int} (hS : xS M T) (hg : T.1 31 = g) (hv : oV M) (hb : ∀ i, i < 4 → 0 ≤ g i ∧ g i ≤ 99) : Cn 1 kX5_passNight [.ref 3, .ref 30] T (pV (mR T 31 (nt (M.1 4) (M.1 3 4).toNat g))) := by
  subst hg
  have h := c_passNight30 T (oV_S hS hv) hb
  rw [hS.1 3 (by omega), hS.1 4 (by omega)] at h
  exact h
theorem c_copyT {T M : Mm_} (hS : xS M T) : Cn 1 kX3_copyForcesFrom [.ref 30, .ref 8] T (fun r U => r = none ∧ xS M U ∧ tr U (M.1 9) (M.1 10) (M.1 8 7) (M.1 13) (M.1 14)) := by
  refine Cn.mono (c_copyForces_8_30 T) (fun r U h => ?_)
  obtain ⟨rfl, rfl⟩ := h
  have h2 := mForces_tr T
  rw [hS.1 9 (by omega), hS.1 10 (by omega), hS.1 8 (by omega), hS.1 13 (by omega), hS.1 14 (by omega)] at h2
  exact ⟨rfl, xS_tr hS h2.1, h2.2⟩
theorem WDc_b (w : Nat → Int) (f : Int → Int) (k : Nat) (hk : k ≤ 6) : 0 ≤ WDc w f k ∧ WDc w f k < 64 := by
  have h := sbb (fun j => decide (w j ≤ f (j : Int))) k
  have h3 : (2 : Nat) ^ k ≤ 2 ^ 6 := Nat.pow_le_pow_right (by decide) hk
  have h2 : (2 : Int) ^ k ≤ 2 ^ 6 := by exact_mod_cast h3
  unfold WDc
  omega
def stN (f : Nat → Int) : Nat → Int × Int
  | 0 => (0, -1)
  | p + 1 => if (stN f p).2 < f p then ((p : Int), f p) else stN f p
theorem stN_b {f : Nat → Int} (h : ∀ i, 0 ≤ f i ∧ f i ≤ 6) : ∀ n, 0 ≤ (stN f n).1 ∧ (stN f n).1 ≤ n ∧ -1 ≤ (stN f n).2 ∧ (stN f n).2 ≤ 6
  | 0 => by show (0 : Int) ≤ 0 ∧ (0 : Int) ≤ ((0 : Nat) : Int) ∧ (-1 : Int) ≤ -1 ∧ (-1 : Int) ≤ 6; omega
  | n + 1 => by
    have h1 := stN_b h n
    have h2 := h n
    unfold stN
    split
    · refine ⟨?_, ?_, ?_, ?_⟩ <;> simp only <;> omega
    · omega
def seatF (w g p : Nat → Int) (dc : Int) (dr dp : Nat → Int) (m k : Nat) (q : Nat) : Int := ob (WDc w (FA g (fun j => if j = k then (q : Int) else p j) dc dr dp) m)
theorem seatF_b (w g p : Nat → Int) (dc : Int) (dr dp : Nat → Int) (m k : Nat) (hm : m ≤ 6) (q : Nat) : 0 ≤ seatF w g p dc dr dp m k q ∧ seatF w g p dc dr dp m k q ≤ 6 := by
  have h := WDc_b w (FA g (fun j => if j = k then (q : Int) else p j) dc dr dp) m hm
  exact ob_b h.1 h.2
def hitF (w g p : Nat → Int) (dc : Int) (dr dp gr : Nat → Int) (k n : Nat) : Int := sm (fun num => if w k ≤ FA (sl1 gr (num : Int) g) p dc dr dp k then 1 else 0) n
def justF (w g p : Nat → Int) (dc : Int) (dr dp gr : Nat → Int) (m : Nat) (set : Int) (n : Nat) : Int := sb (fun num => decide (WDc w (FA (sl1 gr (num : Int) g) p dc dr dp) m = set)) n
theorem oF_g {g g' p : Nat → Int} {dc : Int} {dr dp : Nat → Int} (h : oF g p dc dr dp) (hb : ∀ i, i < 4 → 0 ≤ g' i ∧ g' i ≤ 99) : oF g' p dc dr dp := ⟨hb, h.2⟩
theorem oV_n {M : Mm_} (hv : oV M) : 0 ≤ M.1 3 4 ∧ M.1 3 4 ≤ 4 ∧ 0 ≤ M.1 3 5 ∧ M.1 3 5 ≤ 6 := by
  have := hv.1
  omega
theorem oV_gr {M : Mm_} (hv : oV M) {a : Int} (h1 : a < M.1 3 4 * 3) : 0 ≤ a → 0 ≤ M.1 6 a.toNat := by
  intro h0
  have := hv.1
  exact (hv.2.2.2.1 a.toNat (by omega)).1

set_option maxRecDepth 10000 in
set_option maxHeartbeats 1000000 in
theorem c_trySlight {T M : Mm_} (hS : xS M T) {a : Int} (h0 : -1 ≤ a) (h1a : a < M.1 3 4 * 3) (hv : oV M) (hf : oF (M.1 9) (M.1 10) (M.1 8 7) (M.1 13) (M.1 14)) : Cn 2 kX0_trySlight [.ref 41, .ref 3, .ref 8, .int (zI a)] T (fun r U => r = none ∧ xS M U ∧ tr U (sl1 (M.1 6) a (M.1 9)) (M.1 10) (M.1 8 7) (M.1 13) (M.1 14)) := by
  refine Cn.of rfl (Nat.le_of_ble_eq_true rfl) (fun G C E => ?_)
  show G 0 [.ref 41, .ref 3, .ref 8, .int (zI a)] [] T
  refine r_aload_n C rfl dX0_trySlight_0 ?_
  refine r_getr C dX0_trySlight_1 fl_X0_12 ly_41 rfl ?_
  refine r_aload_n C rfl dX0_trySlight_4 ?_
  refine r_callV C dX0_trySlight_5 vw_X0_40 (c_copyT hS) (by decide) rfl ly_30 rfl rfl (Nat.le_of_ble_eq_true rfl) ?_
  intro r T1 h1
  obtain ⟨rfl, hS1, ht1⟩ := h1
  refine r_aload_n C rfl dX0_trySlight_8 ?_
  refine r_aload_n C rfl dX0_trySlight_9 ?_
  refine r_getr C dX0_trySlight_10 fl_X0_12 ly_41 rfl ?_
  refine r_iload_n C rfl dX0_trySlight_13 ?_
  refine r_cVv C dX0_trySlight_14 vw_X0_57 (c_offendT hS1 ht1.1 h0 h1a hv hf.1) (by decide) rfl ly_3 rfl rfl (Nat.le_of_ble_eq_true rfl) ?_
  exact r_vret E dX0_trySlight_17 (by
    refine ⟨rfl, xS_tr hS1 (xS_R (by omega)), mR_eq, ?_, ?_, ?_, ?_⟩
    · rw [mR_ne (by decide)]; exact ht1.2.1
    · rw [mR_ne (by decide)]; exact ht1.2.2.1
    · rw [mR_ne (by decide)]; exact ht1.2.2.2.1
    · rw [mR_ne (by decide)]; exact ht1.2.2.2.2)
set_option maxRecDepth 10000 in
set_option maxHeartbeats 1000000 in
theorem c_slightsThatSet (M : Mm_) {k : Nat} (hk : (k : Int) < M.1 3 5) (hv : oV M) (hf : oF (M.1 9) (M.1 10) (M.1 8 7) (M.1 13) (M.1 14)) : Cn 3 kX0_slightsThatSet [.ref 41, .ref 3, .ref 8, .int (zI k)] M (fun r U => r = some (.int (zI (hitF (M.1 7) (M.1 9) (M.1 10) (M.1 8 7) (M.1 13) (M.1 14) (M.1 6) k (M.1 3 4 * 3).toNat))) ∧ xS M U) := by
  have hn := oV_n hv
  obtain ⟨n, en⟩ : ∃ n : Nat, M.1 3 4 * 3 = n := ⟨(M.1 3 4 * 3).toNat, by omega⟩
  have en2 : (M.1 3 4 * 3).toNat = n := by omega
  rw [en2]
  refine Cn.of rfl (Nat.le_of_ble_eq_true rfl) (fun G C E => ?_)
  show G 0 [.ref 41, .ref 3, .ref 8, .int (zI (k : Int)), .null, .null] [] M
  have lp : ∀ i, i ≤ n → ∀ (T : Mm_) (s z : Int), xS M T → s = hitF (M.1 7) (M.1 9) (M.1 10) (M.1 8 7) (M.1 13) (M.1 14) (M.1 6) k i → z = i → G 6 [.ref 41, .ref 3, .ref 8, .int (zI k), .int (zI s), .int (zI z)] [] T := by
    refine lpN n ?_ ?_
    · intro T s z hS hs hz
      refine r_iload C rfl dX0_slightsThatSet_6 ?_
      refine r_aload_n C rfl dX0_slightsThatSet_8 ?_
      refine r_cVz C dX0_slightsThatSet_9 vw_X0_61 (c_slightNumbers T) (by decide) rfl ly_3 rfl rfl (Nat.le_of_ble_eq_true rfl) ?_
      rw [hS.1 3 (by omega)]
      refine r_icmp_ge C (tgt := 44) dX0_slightsThatSet_12 rfl (by first | assumption | exact rgm (by omega) (by omega)) (by first | assumption | exact rgm (by omega) (by omega)) (fun h12 => ?_) (fun h12 => absurd h12 (by omega))
      refine r_iload C rfl dX0_slightsThatSet_44 ?_
      exact r_iret E dX0_slightsThatSet_46 ⟨by rw [hs], hS⟩
    · intro i hi ih T s z hS hs hz
      refine r_iload C rfl dX0_slightsThatSet_6 ?_
      refine r_aload_n C rfl dX0_slightsThatSet_8 ?_
      refine r_cVz C dX0_slightsThatSet_9 vw_X0_61 (c_slightNumbers T) (by decide) rfl ly_3 rfl rfl (Nat.le_of_ble_eq_true rfl) ?_
      rw [hS.1 3 (by omega)]
      refine r_icmp_ge C (tgt := 44) dX0_slightsThatSet_12 rfl (by first | assumption | exact rgm (by omega) (by omega)) (by first | assumption | exact rgm (by omega) (by omega)) (fun h12 => absurd h12 (by omega)) (fun h12 => ?_)
      refine r_aload_n C rfl dX0_slightsThatSet_15 ?_
      refine r_aload_n C rfl dX0_slightsThatSet_16 ?_
      refine r_aload_n C rfl dX0_slightsThatSet_17 ?_
      refine r_iload C rfl dX0_slightsThatSet_18 ?_
      refine r_callV C dX0_slightsThatSet_20 vw_X0_65 (c_trySlight hS (by omega) (by omega) hv hf) (by decide) rfl ly_41 rfl rfl (Nat.le_of_ble_eq_true rfl) ?_
      intro r T1 h1
      obtain ⟨rfl, hS1, ht1⟩ := h1
      rw [hz] at ht1
      refine r_aload_n C rfl dX0_slightsThatSet_23 ?_
      refine r_aload_n C rfl dX0_slightsThatSet_24 ?_
      refine r_getr C dX0_slightsThatSet_25 fl_X0_12 ly_41 rfl ?_
      refine r_iload_n C rfl dX0_slightsThatSet_28 ?_
      refine r_cVb C dX0_slightsThatSet_29 vw_X0_69 (c_wouldSetT hk hS1 ht1 hv (oF_g hf (sl1_b hf.1 (oV_gr hv (by omega))))) (by decide) rfl ly_3 rfl rfl (Nat.le_of_ble_eq_true rfl) (fun h29 => ?_) (fun h29 => ?_)
      · refine r_if_eq C (tgt := 38) dX0_slightsThatSet_32 rfl (by first | assumption | exact rgm (by omega) (by omega)) (fun h32 => absurd h32 (by decide)) (fun h32 => ?_)
        refine r_iinc C dX0_slightsThatSet_35 rfl (by decide) rfl ?_
        dsimp only [List.set, Nat.reduceAdd]
        refine r_iinc C dX0_slightsThatSet_38 rfl (by decide) rfl ?_
        dsimp only [List.set, Nat.reduceAdd]
        refine r_goto C (tgt := 6) dX0_slightsThatSet_41 rfl ?_
        exact ih _ _ _ hS1 (by unfold hitF; simp only [sm]; rw [if_pos h29]; simp only [hitF] at hs; omega) (by omega)
      · refine r_if_eq C (tgt := 38) dX0_slightsThatSet_32 rfl (by first | assumption | exact rgm (by omega) (by omega)) (fun h32 => ?_) (fun h32 => absurd h32 (by decide))
        refine r_iinc C dX0_slightsThatSet_38 rfl (by decide) rfl ?_
        dsimp only [List.set, Nat.reduceAdd]
        refine r_goto C (tgt := 6) dX0_slightsThatSet_41 rfl ?_
        exact ih _ _ _ hS1 (by unfold hitF; simp only [sm]; rw [if_neg h29]; simp only [hitF] at hs; omega) (by omega)
  refine r_iconst C dX0_slightsThatSet_0 ?_
  refine r_istore C dX0_slightsThatSet_1 4 rfl (by decide) rfl ?_
  dsimp only [List.set, Nat.reduceAdd]
  refine r_iconst C dX0_slightsThatSet_3 ?_
  refine r_istore C dX0_slightsThatSet_4 5 rfl (by decide) rfl ?_
  dsimp only [List.set, Nat.reduceAdd]
  exact lp 0 (Nat.zero_le _) M _ _ xS_rf rfl rfl
set_option maxRecDepth 10000 in
set_option maxHeartbeats 1000000 in
theorem c_slightsJust (M : Mm_) {q : Int} (rq : rg q) (hv : oV M) (hf : oF (M.1 9) (M.1 10) (M.1 8 7) (M.1 13) (M.1 14)) : Cn 3 kX0_slightsThatSetJust [.ref 41, .ref 3, .ref 8, .int (zI q)] M (fun r U => r = some (.int (zI (justF (M.1 7) (M.1 9) (M.1 10) (M.1 8 7) (M.1 13) (M.1 14) (M.1 6) (M.1 3 5).toNat q (M.1 3 4 * 3).toNat))) ∧ xS M U) := by
  have hn := oV_n hv
  obtain ⟨n, en⟩ : ∃ n : Nat, M.1 3 4 * 3 = n := ⟨(M.1 3 4 * 3).toNat, by omega⟩
  have en2 : (M.1 3 4 * 3).toNat = n := by omega
  rw [en2]
  refine Cn.of rfl (Nat.le_of_ble_eq_true rfl) (fun G C E => ?_)
  show G 0 [.ref 41, .ref 3, .ref 8, .int (zI q), .null, .null] [] M
  have lp : ∀ i, i ≤ n → ∀ (T : Mm_) (s z : Int), xS M T → s = justF (M.1 7) (M.1 9) (M.1 10) (M.1 8 7) (M.1 13) (M.1 14) (M.1 6) (M.1 3 5).toNat q i → z = i → G 6 [.ref 41, .ref 3, .ref 8, .int (zI q), .int (zI s), .int (zI z)] [] T := by
    refine lpN n ?_ ?_
    · intro T s z hS hs hz
      refine r_iload C rfl dX0_slightsThatSetJust_6 ?_
      refine r_aload_n C rfl dX0_slightsThatSetJust_8 ?_
      refine r_cVz C dX0_slightsThatSetJust_9 vw_X0_61 (c_slightNumbers T) (by decide) rfl ly_3 rfl rfl (Nat.le_of_ble_eq_true rfl) ?_
      rw [hS.1 3 (by omega)]
      refine r_icmp_ge C (tgt := 50) dX0_slightsThatSetJust_12 rfl (by first | assumption | exact rgm (by omega) (by omega)) (by first | assumption | exact rgm (by omega) (by omega)) (fun h12 => ?_) (fun h12 => absurd h12 (by omega))
      refine r_iload C rfl dX0_slightsThatSetJust_50 ?_
      exact r_iret E dX0_slightsThatSetJust_52 ⟨by rw [hs], hS⟩
    · intro i hi ih T s z hS hs hz
      have hsb9 := sbb (fun num => decide (WDc (M.1 7) (FA (sl1 (M.1 6) (num : Int) (M.1 9)) (M.1 10) (M.1 8 7) (M.1 13) (M.1 14)) (M.1 3 5).toNat = q)) i
      have hs2 : s = sb (fun num => decide (WDc (M.1 7) (FA (sl1 (M.1 6) (num : Int) (M.1 9)) (M.1 10) (M.1 8 7) (M.1 13) (M.1 14)) (M.1 3 5).toNat = q)) i := hs
      have hWb := WDc_b (M.1 7) (FA (sl1 (M.1 6) (i : Int) (M.1 9)) (M.1 10) (M.1 8 7) (M.1 13) (M.1 14)) (M.1 3 5).toNat (by omega)
      refine r_iload C rfl dX0_slightsThatSetJust_6 ?_
      refine r_aload_n C rfl dX0_slightsThatSetJust_8 ?_
      refine r_cVz C dX0_slightsThatSetJust_9 vw_X0_61 (c_slightNumbers T) (by decide) rfl ly_3 rfl rfl (Nat.le_of_ble_eq_true rfl) ?_
      rw [hS.1 3 (by omega)]
      refine r_icmp_ge C (tgt := 50) dX0_slightsThatSetJust_12 rfl (by first | assumption | exact rgm (by omega) (by omega)) (by first | assumption | exact rgm (by omega) (by omega)) (fun h12 => absurd h12 (by omega)) (fun h12 => ?_)
      refine r_aload_n C rfl dX0_slightsThatSetJust_15 ?_
      refine r_aload_n C rfl dX0_slightsThatSetJust_16 ?_
      refine r_aload_n C rfl dX0_slightsThatSetJust_17 ?_
      refine r_iload C rfl dX0_slightsThatSetJust_18 ?_
      refine r_callV C dX0_slightsThatSetJust_20 vw_X0_65 (c_trySlight hS (by omega) (by omega) hv hf) (by decide) rfl ly_41 rfl rfl (Nat.le_of_ble_eq_true rfl) ?_
      intro r T1 h1
      obtain ⟨rfl, hS1, ht1⟩ := h1
      rw [hz] at ht1
      refine r_aload_n C rfl dX0_slightsThatSetJust_23 ?_
      refine r_aload_n C rfl dX0_slightsThatSetJust_24 ?_
      refine r_getr C dX0_slightsThatSetJust_25 fl_X0_12 ly_41 rfl ?_
      refine r_cVz C dX0_slightsThatSetJust_28 vw_X0_47 (c_wouldT hS1 ht1 hv (oF_g hf (sl1_b hf.1 (oV_gr hv (by omega))))) (by decide) rfl ly_3 rfl rfl (Nat.le_of_ble_eq_true rfl) ?_
      refine r_iload_n C rfl dX0_slightsThatSetJust_31 ?_
      refine r_icmp_ne C (tgt := 44) dX0_slightsThatSetJust_32 rfl (by first | assumption | exact rgm (by omega) (by omega)) (by first | assumption | exact rgm (by omega) (by omega)) (fun h32 => ?_) (fun h32 => ?_)
      · refine r_iinc C dX0_slightsThatSetJust_44 rfl (by decide) rfl ?_
        dsimp only [List.set, Nat.reduceAdd]
        refine r_goto C (tgt := 6) dX0_slightsThatSetJust_47 rfl ?_
        exact ih _ _ _ hS1 (by unfold justF; rw [sb_s, if_neg (by simpa using h32)]; simp only [justF] at hs; omega) (by omega)
      · refine r_iload C rfl dX0_slightsThatSetJust_35 ?_
        refine r_iconst C dX0_slightsThatSetJust_37 ?_
        refine r_iload C rfl dX0_slightsThatSetJust_38 ?_
        refine r_ishl C (v := 2 ^ i) (by rw [hz]; exact zb_shl (by omega)) dX0_slightsThatSetJust_40 ?_
        refine r_ior C (v := s + 2 ^ i) (zb_or (by omega) (by omega) (by omega)) dX0_slightsThatSetJust_41 ?_
        refine r_istore C dX0_slightsThatSetJust_42 4 rfl (by decide) rfl ?_
        dsimp only [List.set, Nat.reduceAdd]
        refine r_iinc C dX0_slightsThatSetJust_44 rfl (by decide) rfl ?_
        dsimp only [List.set, Nat.reduceAdd]
        refine r_goto C (tgt := 6) dX0_slightsThatSetJust_47 rfl ?_
        exact ih _ _ _ hS1 (by unfold justF; rw [sb_s, if_pos (by simpa using h32)]; simp only [justF] at hs; omega) (by omega)
  refine r_iconst C dX0_slightsThatSetJust_0 ?_
  refine r_istore C dX0_slightsThatSetJust_1 4 rfl (by decide) rfl ?_
  dsimp only [List.set, Nat.reduceAdd]
  refine r_iconst C dX0_slightsThatSetJust_3 ?_
  refine r_istore C dX0_slightsThatSetJust_4 5 rfl (by decide) rfl ?_
  dsimp only [List.set, Nat.reduceAdd]
  exact lp 0 (Nat.zero_le _) M _ _ xS_rf rfl rfl

theorem mForces_41 (M : Mm_) : (mForces M 8 30).1 41 = M.1 41 := by
  unfold mForces
  rw [mU_ne (by decide), mR_ne (by decide), mR_ne (by decide), mR_ne (by decide), mR_ne (by decide)]
theorem c_copyT2 {T M : Mm_} (hS : xS M T) : Cn 1 kX3_copyForcesFrom [.ref 30, .ref 8] T (fun r U => r = none ∧ xS M U ∧ tr U (M.1 9) (M.1 10) (M.1 8 7) (M.1 13) (M.1 14) ∧ U.1 41 = T.1 41) := by
  refine Cn.mono (c_copyForces_8_30 T) (fun r U h => ?_)
  obtain ⟨rfl, rfl⟩ := h
  have h2 := mForces_tr T
  rw [hS.1 9 (by omega), hS.1 10 (by omega), hS.1 8 (by omega), hS.1 13 (by omega), hS.1 14 (by omega)] at h2
  exact ⟨rfl, xS_tr hS h2.1, h2.2, mForces_41 T⟩

set_option maxRecDepth 10000 in
set_option maxHeartbeats 1000000 in
theorem c_findSeat (M : Mm_) {k : Nat} (hk : (k : Int) < M.1 3 4) (hv : oV M) (hf : oF (M.1 9) (M.1 10) (M.1 8 7) (M.1 13) (M.1 14)) : Cn 3 kX0_findSeat [.ref 41, .ref 3, .ref 8, .int (zI k)] M (fun r U => r = some (.int (zI (stN (seatF (M.1 7) (M.1 9) (M.1 10) (M.1 8 7) (M.1 13) (M.1 14) (M.1 3 5).toNat k) 6).1)) ∧ xS M U ∧ U.1 41 4 = (stN (seatF (M.1 7) (M.1 9) (M.1 10) (M.1 8 7) (M.1 13) (M.1 14) (M.1 3 5).toNat k) 6).2) := by
  refine Cn.of rfl (Nat.le_of_ble_eq_true rfl) (fun G C E => ?_)
  show G 0 [.ref 41, .ref 3, .ref 8, .int (zI (k : Int)), .null, .null, .null] [] M
  have hn := oV_n hv
  have lp : ∀ i, i ≤ 6 → ∀ (T : Mm_) (s z : Int) (v6 : Value), xS M T → s = (stN (seatF (M.1 7) (M.1 9) (M.1 10) (M.1 8 7) (M.1 13) (M.1 14) (M.1 3 5).toNat k) i).1 → T.1 41 4 = (stN (seatF (M.1 7) (M.1 9) (M.1 10) (M.1 8 7) (M.1 13) (M.1 14) (M.1 3 5).toNat k) i).2 → z = i → G 11 [.ref 41, .ref 3, .ref 8, .int (zI k), .int (zI s), .int (zI z), v6] [] T := by
    refine lpN 6 ?_ ?_
    · intro T s z v6 hS hs hm hz
      refine r_iload C rfl dX0_findSeat_11 ?_
      refine r_bipush C rfl dX0_findSeat_13 ?_
      refine r_icmp_ge C (tgt := 83) dX0_findSeat_15 rfl (by first | assumption | exact rgm (by omega) (by omega)) (by first | assumption | exact rgm (by omega) (by omega)) (fun h15 => ?_) (fun h15 => absurd h15 (by omega))
      refine r_iload C rfl dX0_findSeat_83 ?_
      exact r_iret E dX0_findSeat_85 ⟨by rw [hs], hS, hm⟩
    · intro i hi ih T s z v6 hS hs hm hz
      have e3 := hS.1 3 (by omega)
      have hb9 := stN_b (seatF_b (M.1 7) (M.1 9) (M.1 10) (M.1 8 7) (M.1 13) (M.1 14) (M.1 3 5).toNat k (by omega)) i
      have hb8 := seatF_b (M.1 7) (M.1 9) (M.1 10) (M.1 8 7) (M.1 13) (M.1 14) (M.1 3 5).toNat k (by omega) i
      refine r_iload C rfl dX0_findSeat_11 ?_
      refine r_bipush C rfl dX0_findSeat_13 ?_
      refine r_icmp_ge C (tgt := 83) dX0_findSeat_15 rfl (by first | assumption | exact rgm (by omega) (by omega)) (by first | assumption | exact rgm (by omega) (by omega)) (fun h15 => absurd h15 (by omega)) (fun h15 => ?_)
      refine r_aload_n C rfl dX0_findSeat_18 ?_
      refine r_iload_n C rfl dX0_findSeat_19 ?_
      refine r_cVb C dX0_findSeat_20 vw_X0_34 (c_hasPerson T (rgm (by omega) (by omega)) (oV_S hS hv)) (by decide) rfl ly_3 rfl rfl (Nat.le_of_ble_eq_true rfl) (fun h20 => ?_) (fun h20 => absurd (by rw [e3]; omega) h20)
      refine r_if_eq C (tgt := 83) dX0_findSeat_23 rfl (by first | assumption | exact rgm (by omega) (by omega)) (fun h23 => absurd h23 (by decide)) (fun h23 => ?_)
      refine r_aload_n C rfl dX0_findSeat_26 ?_
      refine r_getr C dX0_findSeat_27 fl_X0_12 ly_41 rfl ?_
      refine r_aload_n C rfl dX0_findSeat_30 ?_
      refine r_callV C dX0_findSeat_31 vw_X0_40 (c_copyT2 hS) (by decide) rfl ly_30 rfl rfl (Nat.le_of_ble_eq_true rfl) ?_
      intro r T1 h1
      obtain ⟨rfl, hS1, ht1, h41a⟩ := h1
      have hK1 : T1.1 41 4 = T.1 41 4 := by rw [h41a]
      refine r_aload_n C rfl dX0_findSeat_34 ?_
      refine r_getr C dX0_findSeat_35 fl_X0_12 ly_41 rfl ?_
      refine r_getr C dX0_findSeat_38 fl_X0_44 ly_30 rfl ?_
      refine r_iload_n C rfl dX0_findSeat_41 ?_
      refine r_iload C rfl dX0_findSeat_42 ?_
      refine r_iast C dX0_findSeat_44 ly_32 rfl (by omega) ?_
      have hS2 : xS M (mU T1 32 k z) := xS_tr hS1 (xS_U (by omega))
      have ht2 : tr (mU T1 32 k z) (M.1 9) (fun j => if j = k then (i : Int) else M.1 10 j) (M.1 8 7) (M.1 13) (M.1 14) := by
        refine ⟨?_, ?_, ?_, ?_, ?_⟩
        · rw [mU_ne (by decide)]; exact ht1.1
        · rw [mU_R, mR_eq, ht1.2.1, hz]
        · rw [mU_ne (by decide)]; exact ht1.2.2.1
        · rw [mU_ne (by decide)]; exact ht1.2.2.2.1
        · rw [mU_ne (by decide)]; exact ht1.2.2.2.2
      have hf2 : oF (M.1 9) (fun j => if j = k then (i : Int) else M.1 10 j) (M.1 8 7) (M.1 13) (M.1 14) := ⟨hf.1, fun j hj => by show 0 ≤ (if j = k then (i : Int) else M.1 10 j) ∧ (if j = k then (i : Int) else M.1 10 j) ≤ 5; have := hf.2.1 j hj; split <;> omega, hf.2.2⟩
      have hWb := WDc_b (M.1 7) (FA (M.1 9) (fun j => if j = k then (i : Int) else M.1 10 j) (M.1 8 7) (M.1 13) (M.1 14)) (M.1 3 5).toNat (by omega)
      have h41 : (mU T1 32 k z).1 41 4 = T.1 41 4 := by rw [mU_ne (by decide)]; exact hK1
      refine r_aload_n C rfl dX0_findSeat_45 ?_
      refine r_aload_n C rfl dX0_findSeat_46 ?_
      refine r_getr C dX0_findSeat_47 fl_X0_12 ly_41 rfl ?_
      refine r_cVz C dX0_findSeat_50 vw_X0_47 (c_wouldT hS2 ht2 hv hf2) (by decide) rfl ly_3 rfl rfl (Nat.le_of_ble_eq_true rfl) ?_
      refine r_cSz C dX0_findSeat_53 sw_X0_51 (c_bitCount _ hWb.1 hWb.2) (by decide) rfl rfl (Nat.le_of_ble_eq_true rfl) ?_
      refine r_istore C dX0_findSeat_56 6 rfl (by decide) rfl ?_
      dsimp only [List.set, Nat.reduceAdd]
      have hfs : ob (WDc (M.1 7) (FA (M.1 9) (fun j => if j = k then (i : Int) else M.1 10 j) (M.1 8 7) (M.1 13) (M.1 14)) (M.1 3 5).toNat) = seatF (M.1 7) (M.1 9) (M.1 10) (M.1 8 7) (M.1 13) (M.1 14) (M.1 3 5).toNat k i := rfl
      rw [hfs]
      refine r_iload C rfl dX0_findSeat_58 ?_
      refine r_aload_n C rfl dX0_findSeat_60 ?_
      refine r_geti C dX0_findSeat_61 fl_X0_30 ly_41 rfl ?_
      refine r_icmp_le C (tgt := 77) dX0_findSeat_64 rfl (by first | assumption | exact rgm (by omega) (by omega)) (by first | assumption | exact rgm (by omega) (by omega)) (fun h64 => ?_) (fun h64 => ?_)
      · refine r_iinc C dX0_findSeat_77 rfl (by decide) rfl ?_
        dsimp only [List.set, Nat.reduceAdd]
        refine r_goto C (tgt := 11) dX0_findSeat_80 rfl ?_
        exact ih _ _ _ _ hS2 (by unfold stN; rw [if_neg (by omega)]; omega) (by unfold stN; rw [if_neg (by omega)]; omega) (by omega)
      · refine r_aload_n C rfl dX0_findSeat_67 ?_
        refine r_iload C rfl dX0_findSeat_68 ?_
        refine r_put C dX0_findSeat_70 fl_X0_30 rfl (Or.inl rfl) ly_41 rfl ?_
        refine r_iload C rfl dX0_findSeat_73 ?_
        refine r_istore C dX0_findSeat_75 4 rfl (by decide) rfl ?_
        dsimp only [List.set, Nat.reduceAdd]
        refine r_iinc C dX0_findSeat_77 rfl (by decide) rfl ?_
        dsimp only [List.set, Nat.reduceAdd]
        refine r_goto C (tgt := 11) dX0_findSeat_80 rfl ?_
        exact ih _ _ _ _ (xS_tr hS2 (xS_U (by omega))) (by unfold stN; rw [if_pos (by omega)]; exact hz) (by unfold stN; rw [if_pos (by omega)]; simp [mU]) (by omega)
  refine r_iconst C dX0_findSeat_0 ?_
  refine r_istore C dX0_findSeat_1 4 rfl (by decide) rfl ?_
  dsimp only [List.set, Nat.reduceAdd]
  refine r_aload_n C rfl dX0_findSeat_3 ?_
  refine r_iconst C dX0_findSeat_4 ?_
  refine r_put C dX0_findSeat_5 fl_X0_30 rfl (Or.inl rfl) ly_41 rfl ?_
  refine r_iconst C dX0_findSeat_8 ?_
  refine r_istore C dX0_findSeat_9 5 rfl (by decide) rfl ?_
  dsimp only [List.set, Nat.reduceAdd]
  exact lp 0 (by omega) _ _ _ _ (xS_U (by omega)) rfl (by simp [mU, stN]) rfl
