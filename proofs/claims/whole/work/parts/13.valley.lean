
def FA (g p : Nat → Int) (dc : Int) (dr dp : Nat → Int) (q : Int) : Int := fr 4 g p q + fr dc.toNat dr dp q
def WDc (w : Nat → Int) (f : Int → Int) (k : Nat) : Int := sb (fun j => decide (w j ≤ f (j : Int))) k
def oF (g p : Nat → Int) (dc : Int) (dr dp : Nat → Int) : Prop := (∀ i, i < 4 → 0 ≤ g i ∧ g i ≤ 99) ∧ (∀ i, i < 4 → 0 ≤ p i ∧ p i ≤ 5) ∧ (0 ≤ dc ∧ dc ≤ 4) ∧ (∀ i, i < 4 → 0 ≤ dr i ∧ dr i ≤ 99) ∧ (∀ i, i < 4 → 0 ≤ dp i ∧ dp i ≤ 5)
def oV (M : Mm_) : Prop := ((M.1 3 4 = 0 ∧ M.1 3 5 = 0) ∨ (2 ≤ M.1 3 4 ∧ M.1 3 4 ≤ 4 ∧ 2 ≤ M.1 3 5 ∧ M.1 3 5 ≤ 6)) ∧ (∀ i, i < 4 → 0 ≤ M.1 4 i ∧ M.1 4 i ≤ 4) ∧ (∀ i, i < 4 → 0 ≤ M.1 5 i ∧ M.1 5 i ≤ 9) ∧ (∀ i, i < 12 → 0 ≤ M.1 6 i ∧ M.1 6 i ≤ 21) ∧ (∀ j, j < 6 → 0 ≤ M.1 7 j ∧ M.1 7 j ≤ 9)
def nt (kd : Nat → Int) (n : Nat) (g : Nat → Int) : Nat → Int := fun i => if i < n then ng (kd i) (g i) else g i
def sl1 (gr : Nat → Int) (num : Int) (g : Nat → Int) : Nat → Int := fun j => if (j : Int) = num / 3 ∧ 0 ≤ num then tp (g j + gr num.toNat) else g j
theorem fr_b {n : Nat} {g p : Nat → Int} {q : Int} (h : ∀ i, i < n → 0 ≤ g i ∧ g i ≤ 99) : 0 ≤ fr n g p q ∧ fr n g p q ≤ 99 * n := sm_le (fun i hi => rch_b (h i hi).1 (h i hi).2)
theorem FA_b {g p : Nat → Int} {dc : Int} {dr dp : Nat → Int} {q : Int} (h : oF g p dc dr dp) : 0 ≤ FA g p dc dr dp q ∧ FA g p dc dr dp q ≤ 792 := by
  have h1 := fr_b (n := 4) (p := p) (q := q) h.1
  have h2 := fr_b (n := dc.toNat) (g := dr) (p := dp) (q := q) (fun i hi => h.2.2.2.1 i (by have := h.2.2.1; omega))
  have h3 := h.2.2.1
  unfold FA
  omega
theorem mR_self (M : Mm_) (a : Nat) : mR M a (M.1 a) = M := by
  unfold mR
  congr 1
  funext x
  by_cases h : x = a <;> simp [h]
theorem mU_mR (M : Mm_) (a k : Nat) (f : Nat → Int) (z : Int) : mU (mR M a f) a k z = mR M a (fun j => if j = k then z else f j) := by
  unfold mU mR
  congr 1
  funext x y
  by_cases h : x = a <;> simp [h]
theorem mU_R (M : Mm_) (a k : Nat) (z : Int) : mU M a k z = mR M a (fun j => if j = k then z else M.1 a j) := by
  conv => lhs; rw [← mR_self M a]
  exact mU_mR M a k _ z
theorem mR_mR (M : Mm_) (a : Nat) (f g : Nat → Int) : mR (mR M a f) a g = mR M a g := by
  unfold mR
  congr 1
  funext x
  by_cases h : x = a <;> simp [h]
theorem sl1_b {gr : Nat → Int} {num : Int} {g : Nat → Int} {n : Nat} (h : ∀ i, i < n → 0 ≤ g i ∧ g i ≤ 99) (hg : 0 ≤ num → 0 ≤ gr num.toNat) : ∀ i, i < n → 0 ≤ sl1 gr num g i ∧ sl1 gr num g i ≤ 99 := by
  intro i hi
  have h1 := h i hi
  unfold sl1
  split
  · rename_i h2
    have := hg h2.2
    exact tp_b (by omega)
  · exact h1
theorem nt_b {kd : Nat → Int} {m : Nat} {g : Nat → Int} {n : Nat} (h : ∀ i, i < n → 0 ≤ g i ∧ g i ≤ 99) : ∀ i, i < n → 0 ≤ nt kd m g i ∧ nt kd m g i ≤ 99 := by
  intro i hi
  have h1 := h i hi
  unfold nt
  split
  · exact ng_b h1.1 h1.2
  · exact h1
theorem sl1_m (gr : Nat → Int) (g : Nat → Int) : sl1 gr (-1) g = g := by
  funext j
  unfold sl1
  rw [if_neg (by omega)]

set_option maxRecDepth 10000 in
set_option maxHeartbeats 1000000 in
theorem c_isThere (M : Mm_) (hv : oV M) : Cn 0 kX5_isThere [.ref 3] M (pB (0 < M.1 3 4) M) := by
  refine Cn.of rfl (Nat.le_of_ble_eq_true rfl) (fun G C E => ?_)
  show G 0 [.ref 3] [] M
  have hv0 := hv.1
  refine r_aload_n C rfl dX5_isThere_0 ?_
  refine r_geti C dX5_isThere_1 fl_X5_36 ly_3 rfl ?_
  refine r_if_le C (tgt := 11) dX5_isThere_4 rfl (by first | assumption | exact rgm (by omega) (by omega)) (fun h4 => ?_) (fun h4 => ?_)
  · refine r_iconst C dX5_isThere_11 ?_
    exact r_zret E dX5_isThere_12 (by decide) (pB_f (by omega))
  · refine r_iconst C dX5_isThere_7 ?_
    refine r_goto C (tgt := 12) dX5_isThere_8 rfl ?_
    exact r_zret E dX5_isThere_12 (by decide) (pB_t (by omega))
set_option maxRecDepth 10000 in
set_option maxHeartbeats 1000000 in
theorem c_hasPerson (M : Mm_) {a : Int} (ra : rg a) (hv : oV M) : Cn 0 kX5_hasPerson [.ref 3, .int (zI a)] M (pB (0 ≤ a ∧ a < M.1 3 4) M) := by
  refine Cn.of rfl (Nat.le_of_ble_eq_true rfl) (fun G C E => ?_)
  show G 0 [.ref 3, .int (zI a)] [] M
  have hv0 := hv.1
  refine r_iload_n C rfl dX5_hasPerson_0 ?_
  refine r_if_lt C (tgt := 16) dX5_hasPerson_1 rfl (by first | assumption | exact rgm (by omega) (by omega)) (fun h1 => ?_) (fun h1 => ?_)
  · refine r_iconst C dX5_hasPerson_16 ?_
    exact r_zret E dX5_hasPerson_17 (by decide) (pB_f (by omega))
  · refine r_iload_n C rfl dX5_hasPerson_4 ?_
    refine r_aload_n C rfl dX5_hasPerson_5 ?_
    refine r_geti C dX5_hasPerson_6 fl_X5_36 ly_3 rfl ?_
    refine r_icmp_ge C (tgt := 16) dX5_hasPerson_9 rfl (by first | assumption | exact rgm (by omega) (by omega)) (by first | assumption | exact rgm (by omega) (by omega)) (fun h9 => ?_) (fun h9 => ?_)
    · refine r_iconst C dX5_hasPerson_16 ?_
      exact r_zret E dX5_hasPerson_17 (by decide) (pB_f (by omega))
    · refine r_iconst C dX5_hasPerson_12 ?_
      refine r_goto C (tgt := 17) dX5_hasPerson_13 rfl ?_
      exact r_zret E dX5_hasPerson_17 (by decide) (pB_t (by omega))
set_option maxRecDepth 10000 in
set_option maxHeartbeats 1000000 in
theorem c_hasPail (M : Mm_) {a : Int} (ra : rg a) (hv : oV M) : Cn 0 kX5_hasPail [.ref 3, .int (zI a)] M (pB (0 ≤ a ∧ a < M.1 3 5) M) := by
  refine Cn.of rfl (Nat.le_of_ble_eq_true rfl) (fun G C E => ?_)
  show G 0 [.ref 3, .int (zI a)] [] M
  have hv0 := hv.1
  refine r_iload_n C rfl dX5_hasPail_0 ?_
  refine r_if_lt C (tgt := 16) dX5_hasPail_1 rfl (by first | assumption | exact rgm (by omega) (by omega)) (fun h1 => ?_) (fun h1 => ?_)
  · refine r_iconst C dX5_hasPail_16 ?_
    exact r_zret E dX5_hasPail_17 (by decide) (pB_f (by omega))
  · refine r_iload_n C rfl dX5_hasPail_4 ?_
    refine r_aload_n C rfl dX5_hasPail_5 ?_
    refine r_geti C dX5_hasPail_6 fl_X5_68 ly_3 rfl ?_
    refine r_icmp_ge C (tgt := 16) dX5_hasPail_9 rfl (by first | assumption | exact rgm (by omega) (by omega)) (by first | assumption | exact rgm (by omega) (by omega)) (fun h9 => ?_) (fun h9 => ?_)
    · refine r_iconst C dX5_hasPail_16 ?_
      exact r_zret E dX5_hasPail_17 (by decide) (pB_f (by omega))
    · refine r_iconst C dX5_hasPail_12 ?_
      refine r_goto C (tgt := 17) dX5_hasPail_13 rfl ?_
      exact r_zret E dX5_hasPail_17 (by decide) (pB_t (by omega))
set_option maxRecDepth 10000 in
set_option maxHeartbeats 1000000 in
theorem c_hasSlight (M : Mm_) {a : Int} (ra : rg a) (hv : oV M) : Cn 0 kX5_hasSlight [.ref 3, .int (zI a)] M (pB (0 ≤ a ∧ a < M.1 3 4 * 3) M) := by
  refine Cn.of rfl (Nat.le_of_ble_eq_true rfl) (fun G C E => ?_)
  show G 0 [.ref 3, .int (zI a)] [] M
  have hv0 := hv.1
  refine r_iload_n C rfl dX5_hasSlight_0 ?_
  refine r_if_lt C (tgt := 18) dX5_hasSlight_1 rfl (by first | assumption | exact rgm (by omega) (by omega)) (fun h1 => ?_) (fun h1 => ?_)
  · refine r_iconst C dX5_hasSlight_18 ?_
    exact r_zret E dX5_hasSlight_19 (by decide) (pB_f (by omega))
  · refine r_iload_n C rfl dX5_hasSlight_4 ?_
    refine r_aload_n C rfl dX5_hasSlight_5 ?_
    refine r_geti C dX5_hasSlight_6 fl_X5_36 ly_3 rfl ?_
    refine r_iconst C dX5_hasSlight_9 ?_
    refine r_imul C dX5_hasSlight_10 ?_
    refine r_icmp_ge C (tgt := 18) dX5_hasSlight_11 rfl (by first | assumption | exact rgm (by omega) (by omega)) (by first | assumption | exact rgm (by omega) (by omega)) (fun h11 => ?_) (fun h11 => ?_)
    · refine r_iconst C dX5_hasSlight_18 ?_
      exact r_zret E dX5_hasSlight_19 (by decide) (pB_f (by omega))
    · refine r_iconst C dX5_hasSlight_14 ?_
      refine r_goto C (tgt := 19) dX5_hasSlight_15 rfl ?_
      exact r_zret E dX5_hasSlight_19 (by decide) (pB_t (by omega))
set_option maxRecDepth 10000 in
set_option maxHeartbeats 1000000 in
theorem c_arePails (M : Mm_) {a : Int} (ra : rg a) (hv : oV M) : Cn 0 kX5_arePails [.ref 3, .int (zI a)] M (pB (0 ≤ a ∧ a < 2 ^ (M.1 3 5).toNat) M) := by
  have hv0 := hv.1
  obtain ⟨k, hk⟩ : ∃ k : Nat, M.1 3 5 = k := ⟨(M.1 3 5).toNat, by omega⟩
  have hpw : (1 : Int) ≤ 2 ^ k ∧ (2 : Int) ^ k ≤ 64 := by
    rcases (show k = 0 ∨ k = 1 ∨ k = 2 ∨ k = 3 ∨ k = 4 ∨ k = 5 ∨ k = 6 by omega) with rfl | rfl | rfl | rfl | rfl | rfl | rfl <;> decide
  have ek : (M.1 3 5).toNat = k := by omega
  rw [ek]
  refine Cn.of rfl (Nat.le_of_ble_eq_true rfl) (fun G C E => ?_)
  show G 0 [.ref 3, .int (zI a)] [] M
  refine r_iload_n C rfl dX5_arePails_0 ?_
  refine r_if_lt C (tgt := 18) dX5_arePails_1 rfl (by first | assumption | exact rgm (by omega) (by omega)) (fun h1 => ?_) (fun h1 => ?_)
  · refine r_iconst C dX5_arePails_18 ?_
    exact r_zret E dX5_arePails_19 (by decide) (pB_f (by omega))
  · refine r_iload_n C rfl dX5_arePails_4 ?_
    refine r_iconst C dX5_arePails_5 ?_
    refine r_aload_n C rfl dX5_arePails_6 ?_
    refine r_geti C dX5_arePails_7 fl_X5_68 ly_3 rfl ?_
    refine r_ishl C (v := 2 ^ k) (by rw [hk]; exact zb_shl (by omega)) dX5_arePails_10 ?_
    refine r_icmp_ge C (tgt := 18) dX5_arePails_11 rfl (by first | assumption | exact rgm (by omega) (by omega)) (by first | assumption | exact rgm (by omega) (by omega)) (fun h11 => ?_) (fun h11 => ?_)
    · refine r_iconst C dX5_arePails_18 ?_
      exact r_zret E dX5_arePails_19 (by decide) (pB_f (by omega))
    · refine r_iconst C dX5_arePails_14 ?_
      refine r_goto C (tgt := 19) dX5_arePails_15 rfl ?_
      exact r_zret E dX5_arePails_19 (by decide) (pB_t (by omega))
set_option maxRecDepth 10000 in
set_option maxHeartbeats 1000000 in
theorem c_slightNumbers (M : Mm_) : Cn 0 kX5_slightNumbers [.ref 3] M (pZ (M.1 3 4 * 3) M) := by
  refine Cn.of rfl (Nat.le_of_ble_eq_true rfl) (fun G C E => ?_)
  show G 0 [.ref 3] [] M
  refine r_aload_n C rfl dX5_slightNumbers_0 ?_
  refine r_geti C dX5_slightNumbers_1 fl_X5_36 ly_3 rfl ?_
  refine r_iconst C dX5_slightNumbers_4 ?_
  refine r_imul C dX5_slightNumbers_5 ?_
  exact r_iret E dX5_slightNumbers_6 (pZ_of rfl)
set_option maxRecDepth 10000 in
set_option maxHeartbeats 1000000 in
theorem c_growth (M : Mm_) {a : Int} (h0 : 0 ≤ a) (h1 : a < M.1 3 4 * 3) (hv : oV M) (hg : ∀ i, i < 4 → 0 ≤ M.1 9 i ∧ M.1 9 i ≤ 99) : Cn 1 kX5_growth [.ref 3, .ref 8, .int (zI a)] M (pZ (tp (M.1 9 (a / 3).toNat + M.1 6 a.toNat) - M.1 9 (a / 3).toNat) M) := by
  refine Cn.of rfl (Nat.le_of_ble_eq_true rfl) (fun G C E => ?_)
  show G 0 [.ref 3, .ref 8, .int (zI a)] [] M
  have hv0 := hv.1
  have hgr := hv.2.2.2.1 a.toNat (by omega)
  have hgi := hg (a / 3).toNat (by omega)
  refine r_aload_n C rfl dX5_growth_0 ?_
  refine r_iload_n C rfl dX5_growth_1 ?_
  refine r_cVb C dX5_growth_2 vw_X5_71 (c_hasSlight M (rgm (by omega) (by omega)) hv) (by decide) rfl ly_3 rfl rfl (Nat.le_of_ble_eq_true rfl) (fun h2 => ?_) (fun h2 => absurd (by omega) h2)
  refine r_if_ne C (tgt := 10) dX5_growth_5 rfl (by first | assumption | exact rgm (by omega) (by omega)) (fun h5 => ?_) (fun h5 => absurd h5 (by decide))
  refine r_aload_n C rfl dX5_growth_10 ?_
  refine r_getr C dX5_growth_11 fl_X5_18 ly_3 rfl ?_
  refine r_iload_n C rfl dX5_growth_14 ?_
  refine r_iald C dX5_growth_15 ly_6 (k := a.toNat) (by omega) (by omega) ?_
  refine r_bipush C rfl dX5_growth_16 ?_
  refine r_aload_n C rfl dX5_growth_18 ?_
  refine r_getr C dX5_growth_19 fl_X5_75 ly_8 rfl ?_
  refine r_iload_n C rfl dX5_growth_22 ?_
  refine r_iconst C dX5_growth_23 ?_
  refine r_idiv C (by omega) (by omega) (by first | assumption | exact rgm (by omega) (by omega)) (by first | assumption | exact rgm (by omega) (by omega)) dX5_growth_24 ?_
  refine r_iald C dX5_growth_25 ly_9 (k := (a / 3).toNat) (by omega) (by omega) ?_
  refine r_isub C dX5_growth_26 ?_
  refine r_min C dX5_growth_27 ml_X5_30 mm_st_min mm_in mm_cw_min (by decide) (Nat.le_of_ble_eq_true rfl) (by first | assumption | exact rgm (by omega) (by omega)) (by first | assumption | exact rgm (by omega) (by omega)) ?_
  exact r_iret E dX5_growth_30 (pZ_of (by unfold tp; split <;> split <;> omega))
set_option maxRecDepth 10000 in
set_option maxHeartbeats 1000000 in
theorem c_offend8 (M : Mm_) {a : Int} (h0 : -1 ≤ a) (h1 : a < M.1 3 4 * 3) (hv : oV M) (hg : ∀ i, i < 4 → 0 ≤ M.1 9 i ∧ M.1 9 i ≤ 99) : Cn 1 kX5_offend [.ref 3, .ref 8, .int (zI a)] M (pV (mR M 9 (sl1 (M.1 6) a (M.1 9)))) := by
  refine Cn.of rfl (Nat.le_of_ble_eq_true rfl) (fun G C E => ?_)
  show G 0 [.ref 3, .ref 8, .int (zI a), .null] [] M
  have hv0 := hv.1
  by_cases ha : 0 ≤ a
  · have hgr := hv.2.2.2.1 a.toNat (by omega)
    have hgi := hg (a / 3).toNat (by omega)
    refine r_aload_n C rfl dX5_offend_0 ?_
    refine r_iload_n C rfl dX5_offend_1 ?_
    refine r_cVb C dX5_offend_2 vw_X5_71 (c_hasSlight M (rgm (by omega) (by omega)) hv) (by decide) rfl ly_3 rfl rfl (Nat.le_of_ble_eq_true rfl) (fun h2 => ?_) (fun h2 => absurd (by omega) h2)
    refine r_if_eq C (tgt := 36) dX5_offend_5 rfl (by first | assumption | exact rgm (by omega) (by omega)) (fun h5 => absurd h5 (by decide)) (fun h5 => ?_)
    refine r_iload_n C rfl dX5_offend_8 ?_
    refine r_iconst C dX5_offend_9 ?_
    refine r_idiv C (by omega) (by omega) (by first | assumption | exact rgm (by omega) (by omega)) (by first | assumption | exact rgm (by omega) (by omega)) dX5_offend_10 ?_
    refine r_istore_n C dX5_offend_11 3 rfl (by decide) rfl ?_
    dsimp only [List.set, Nat.reduceAdd]
    refine r_aload_n C rfl dX5_offend_12 ?_
    refine r_getr C dX5_offend_13 fl_X5_75 ly_8 rfl ?_
    refine r_iload_n C rfl dX5_offend_16 ?_
    refine r_bipush C rfl dX5_offend_17 ?_
    refine r_aload_n C rfl dX5_offend_19 ?_
    refine r_getr C dX5_offend_20 fl_X5_75 ly_8 rfl ?_
    refine r_iload_n C rfl dX5_offend_23 ?_
    refine r_iald C dX5_offend_24 ly_9 (k := (a / 3).toNat) (by omega) (by omega) ?_
    refine r_aload_n C rfl dX5_offend_25 ?_
    refine r_getr C dX5_offend_26 fl_X5_18 ly_3 rfl ?_
    refine r_iload_n C rfl dX5_offend_29 ?_
    refine r_iald C dX5_offend_30 ly_6 (k := a.toNat) (by omega) (by omega) ?_
    refine r_iadd C dX5_offend_31 ?_
    refine r_min C dX5_offend_32 ml_X5_30 mm_st_min mm_in mm_cw_min (by decide) (Nat.le_of_ble_eq_true rfl) (by first | assumption | exact rgm (by omega) (by omega)) (by first | assumption | exact rgm (by omega) (by omega)) ?_
    refine r_iast C dX5_offend_35 ly_9 (k := (a / 3).toNat) (by omega) (by omega) ?_
    exact r_vret E dX5_offend_36 (by
      refine ⟨rfl, ?_⟩
      rw [mU_R]
      congr 1
      funext j
      unfold sl1
      by_cases hj : j = (a / 3).toNat
      · rw [if_pos hj, if_pos (show ((j : Int) = a / 3 ∧ 0 ≤ a) from ⟨by omega, ha⟩), hj]
        unfold tp
        split <;> split <;> omega
      · rw [if_neg hj, if_neg (by omega)])
  · have e : a = -1 := by omega
    refine r_aload_n C rfl dX5_offend_0 ?_
    refine r_iload_n C rfl dX5_offend_1 ?_
    refine r_cVb C dX5_offend_2 vw_X5_71 (c_hasSlight M (rgm (by omega) (by omega)) hv) (by decide) rfl ly_3 rfl rfl (Nat.le_of_ble_eq_true rfl) (fun h2 => absurd h2 (by omega)) (fun h2 => ?_)
    refine r_if_eq C (tgt := 36) dX5_offend_5 rfl (by first | assumption | exact rgm (by omega) (by omega)) (fun h5 => ?_) (fun h5 => absurd h5 (by decide))
    exact r_vret E dX5_offend_36 (by refine ⟨rfl, ?_⟩; rw [e, sl1_m, mR_self])
set_option maxRecDepth 10000 in
set_option maxHeartbeats 1000000 in
theorem c_passNight8 (M : Mm_) (hv : oV M) (hg : ∀ i, i < 4 → 0 ≤ M.1 9 i ∧ M.1 9 i ≤ 99) : Cn 1 kX5_passNight [.ref 3, .ref 8] M (pV (mR M 9 (nt (M.1 4) (M.1 3 4).toNat (M.1 9)))) := by
  have hv0 := hv.1
  obtain ⟨n, hn⟩ : ∃ n : Nat, M.1 3 4 = n := ⟨(M.1 3 4).toNat, by omega⟩
  have en : (M.1 3 4).toNat = n := by omega
  rw [en]
  refine Cn.of rfl (Nat.le_of_ble_eq_true rfl) (fun G C E => ?_)
  show G 0 [.ref 3, .ref 8, .null] [] M
  have lp : ∀ i, i ≤ n → ∀ z : Int, z = i → G 2 [.ref 3, .ref 8, .int (zI z)] [] (mR M 9 (nt (M.1 4) i (M.1 9))) := by
    refine lpN n ?_ ?_
    · intro z hz
      have e1 : (mR M 9 (nt (M.1 4) n (M.1 9))).1 3 4 = n := by rw [mR_ne (by decide)]; exact hn
      refine r_iload_n C rfl dX5_passNight_2 ?_
      refine r_aload_n C rfl dX5_passNight_3 ?_
      refine r_geti C dX5_passNight_4 fl_X5_36 ly_3 rfl ?_
      refine r_icmp_ge C (tgt := 37) dX5_passNight_7 rfl (by first | assumption | exact rgm (by omega) (by omega)) (by first | assumption | exact rgm (by omega) (by omega)) (fun h7 => ?_) (fun h7 => absurd h7 (by omega))
      exact r_vret E dX5_passNight_37 ⟨rfl, rfl⟩
    · intro i hi ih z hz
      have e1 : (mR M 9 (nt (M.1 4) i (M.1 9))).1 3 4 = n := by rw [mR_ne (by decide)]; exact hn
      have e2 : (mR M 9 (nt (M.1 4) i (M.1 9))).1 4 i = M.1 4 i := by rw [mR_ne (by decide)]
      have e3 : (mR M 9 (nt (M.1 4) i (M.1 9))).1 9 i = M.1 9 i := by rw [mR_eq]; unfold nt; rw [if_neg (by omega)]
      refine r_iload_n C rfl dX5_passNight_2 ?_
      refine r_aload_n C rfl dX5_passNight_3 ?_
      refine r_geti C dX5_passNight_4 fl_X5_36 ly_3 rfl ?_
      refine r_icmp_ge C (tgt := 37) dX5_passNight_7 rfl (by first | assumption | exact rgm (by omega) (by omega)) (by first | assumption | exact rgm (by omega) (by omega)) (fun h7 => absurd h7 (by omega)) (fun h7 => ?_)
      refine r_aload_n C rfl dX5_passNight_10 ?_
      refine r_getr C dX5_passNight_11 fl_X5_75 ly_8 rfl ?_
      refine r_iload_n C rfl dX5_passNight_14 ?_
      refine r_aload_n C rfl dX5_passNight_15 ?_
      refine r_getr C dX5_passNight_16 fl_X5_9 ly_3 rfl ?_
      refine r_iload_n C rfl dX5_passNight_19 ?_
      refine r_iald C dX5_passNight_20 ly_4 hz (by omega) ?_
      rw [e2]
      refine r_aload_n C rfl dX5_passNight_21 ?_
      refine r_getr C dX5_passNight_22 fl_X5_75 ly_8 rfl ?_
      refine r_iload_n C rfl dX5_passNight_25 ?_
      refine r_iald C dX5_passNight_26 ly_9 hz (by omega) ?_
      rw [e3]
      refine r_cSz C dX5_passNight_27 sw_X5_78 (c_overnight _ (hv.2.1 i (by omega)) (hg i (by omega))) (by decide) rfl rfl (Nat.le_of_ble_eq_true rfl) ?_
      refine r_iast C dX5_passNight_30 ly_9 hz (by omega) ?_
      have e4 : mU (mR M 9 (nt (M.1 4) i (M.1 9))) 9 i (ng (M.1 4 i) (M.1 9 i)) = mR M 9 (nt (M.1 4) (i + 1) (M.1 9)) := by
        rw [mU_mR]
        congr 1
        funext j
        unfold nt
        by_cases h1 : j = i
        · rw [if_pos h1, if_pos (by omega), h1]
        · rw [if_neg h1]
          by_cases h2 : j < i
          · rw [if_pos h2, if_pos (by omega)]
          · rw [if_neg h2, if_neg (by omega)]
      rw [e4]
      refine r_iinc C dX5_passNight_31 rfl (by decide) rfl ?_
      dsimp only [List.set, Nat.reduceAdd]
      refine r_goto C (tgt := 2) dX5_passNight_34 rfl ?_
      exact ih _ (by omega)
  refine r_iconst C dX5_passNight_0 ?_
  refine r_istore_n C dX5_passNight_1 2 rfl (by decide) rfl ?_
  dsimp only [List.set, Nat.reduceAdd]
  have h0 := lp 0 (Nat.zero_le _) 0 rfl
  rw [show nt (M.1 4) 0 (M.1 9) = M.1 9 from rfl, mR_self] at h0
  exact h0
set_option maxRecDepth 10000 in
set_option maxHeartbeats 1000000 in
theorem c_wouldSet8 (M : Mm_) {k : Nat} (hk : (k : Int) < M.1 3 5) (hv : oV M) (hf : oF (M.1 9) (M.1 10) (M.1 8 7) (M.1 13) (M.1 14)) : Cn 2 kX5_wouldSet [.ref 3, .ref 8, .int (zI k)] M (pB (M.1 7 k ≤ FA (M.1 9) (M.1 10) (M.1 8 7) (M.1 13) (M.1 14) k) M) := by
  refine Cn.of rfl (Nat.le_of_ble_eq_true rfl) (fun G C E => ?_)
  show G 0 [.ref 3, .ref 8, .int (zI (k : Int))] [] M
  have hv0 := hv.1
  have hw := hv.2.2.2.2 k (by omega)
  have hF := FA_b (q := (k : Int)) hf
  unfold FA at hF
  refine r_aload_n C rfl dX5_wouldSet_0 ?_
  refine r_iload_n C rfl dX5_wouldSet_1 ?_
  refine r_cVb C dX5_wouldSet_2 vw_X5_81 (c_hasPail M (rgm (by omega) (by omega)) hv) (by decide) rfl ly_3 rfl rfl (Nat.le_of_ble_eq_true rfl) (fun h2 => ?_) (fun h2 => absurd (by omega) h2)
  refine r_if_eq C (tgt := 26) dX5_wouldSet_5 rfl (by first | assumption | exact rgm (by omega) (by omega)) (fun h5 => absurd h5 (by decide)) (fun h5 => ?_)
  refine r_aload_n C rfl dX5_wouldSet_8 ?_
  refine r_iload_n C rfl dX5_wouldSet_9 ?_
  refine r_cVz C dX5_wouldSet_10 vw_X5_84 (c_forceAt8 M (by omega) hf.1 hf.2.1 hf.2.2.1 hf.2.2.2.1 hf.2.2.2.2) (by decide) rfl ly_8 rfl rfl (Nat.le_of_ble_eq_true rfl) ?_
  refine r_aload_n C rfl dX5_wouldSet_13 ?_
  refine r_getr C dX5_wouldSet_14 fl_X5_21 ly_3 rfl ?_
  refine r_iload_n C rfl dX5_wouldSet_17 ?_
  refine r_iald C dX5_wouldSet_18 ly_7 rfl (by omega) ?_
  refine r_icmp_lt C (tgt := 26) dX5_wouldSet_19 rfl (by first | assumption | exact rgm (by omega) (by omega)) (by first | assumption | exact rgm (by omega) (by omega)) (fun h19 => ?_) (fun h19 => ?_)
  · refine r_iconst C dX5_wouldSet_26 ?_
    exact r_zret E dX5_wouldSet_27 (by decide) (pB_f (by unfold FA; omega))
  · refine r_iconst C dX5_wouldSet_22 ?_
    refine r_goto C (tgt := 27) dX5_wouldSet_23 rfl ?_
    exact r_zret E dX5_wouldSet_27 (by decide) (pB_t (by unfold FA; omega))
set_option maxRecDepth 10000 in
set_option maxHeartbeats 1000000 in
theorem c_would8 (M : Mm_) (hv : oV M) (hf : oF (M.1 9) (M.1 10) (M.1 8 7) (M.1 13) (M.1 14)) : Cn 2 kX5_allThatWouldSet [.ref 3, .ref 8] M (pZ (WDc (M.1 7) (FA (M.1 9) (M.1 10) (M.1 8 7) (M.1 13) (M.1 14)) (M.1 3 5).toNat) M) := by
  have hv0 := hv.1
  obtain ⟨n, hn⟩ : ∃ n : Nat, M.1 3 5 = n := ⟨(M.1 3 5).toNat, by omega⟩
  have en : (M.1 3 5).toNat = n := by omega
  rw [en]
  refine Cn.of rfl (Nat.le_of_ble_eq_true rfl) (fun G C E => ?_)
  show G 0 [.ref 3, .ref 8, .null, .null] [] M
  have lp : ∀ i, i ≤ n → ∀ s z : Int, s = sb (fun j => decide (M.1 7 j ≤ FA (M.1 9) (M.1 10) (M.1 8 7) (M.1 13) (M.1 14) (j : Int))) i → z = i → G 4 [.ref 3, .ref 8, .int (zI s), .int (zI z)] [] M := by
    refine lpN n ?_ ?_
    · intro s z hs hz 
      refine r_iload_n C rfl dX5_allThatWouldSet_4 ?_
      refine r_aload_n C rfl dX5_allThatWouldSet_5 ?_
      refine r_geti C dX5_allThatWouldSet_6 fl_X5_68 ly_3 rfl ?_
      refine r_icmp_ge C (tgt := 38) dX5_allThatWouldSet_9 rfl (by first | assumption | exact rgm (by omega) (by omega)) (by first | assumption | exact rgm (by omega) (by omega)) (fun h9 => ?_) (fun h9 => absurd h9 (by omega))
      refine r_iload_n C rfl dX5_allThatWouldSet_38 ?_
      exact r_iret E dX5_allThatWouldSet_39 (pZ_of hs)
    · intro i hi ih s z hs hz 
      have hsb9 := sbb (fun j => decide (M.1 7 j ≤ FA (M.1 9) (M.1 10) (M.1 8 7) (M.1 13) (M.1 14) (j : Int))) i
      have hw := hv.2.2.2.2 i (by omega)
      have hF := FA_b (q := (i : Int)) hf
      unfold FA at hF
      subst hz
      have hpw : (2 : Int) ^ i ≤ 64 := by
        rcases (show i = 0 ∨ i = 1 ∨ i = 2 ∨ i = 3 ∨ i = 4 ∨ i = 5 ∨ i = 6 by omega) with rfl | rfl | rfl | rfl | rfl | rfl | rfl <;> decide
      refine r_iload_n C rfl dX5_allThatWouldSet_4 ?_
      refine r_aload_n C rfl dX5_allThatWouldSet_5 ?_
      refine r_geti C dX5_allThatWouldSet_6 fl_X5_68 ly_3 rfl ?_
      refine r_icmp_ge C (tgt := 38) dX5_allThatWouldSet_9 rfl (by first | assumption | exact rgm (by omega) (by omega)) (by first | assumption | exact rgm (by omega) (by omega)) (fun h9 => absurd h9 (by omega)) (fun h9 => ?_)
      refine r_aload_n C rfl dX5_allThatWouldSet_12 ?_
      refine r_iload_n C rfl dX5_allThatWouldSet_13 ?_
      refine r_cVz C dX5_allThatWouldSet_14 vw_X5_84 (c_forceAt8 M (by omega) hf.1 hf.2.1 hf.2.2.1 hf.2.2.2.1 hf.2.2.2.2) (by decide) rfl ly_8 rfl rfl (Nat.le_of_ble_eq_true rfl) ?_
      refine r_aload_n C rfl dX5_allThatWouldSet_17 ?_
      refine r_getr C dX5_allThatWouldSet_18 fl_X5_21 ly_3 rfl ?_
      refine r_iload_n C rfl dX5_allThatWouldSet_21 ?_
      refine r_iald C dX5_allThatWouldSet_22 ly_7 rfl (by omega) ?_
      refine r_icmp_lt C (tgt := 32) dX5_allThatWouldSet_23 rfl (by first | assumption | exact rgm (by omega) (by omega)) (by first | assumption | exact rgm (by omega) (by omega)) (fun h23 => ?_) (fun h23 => ?_)
      · refine r_iinc C dX5_allThatWouldSet_32 rfl (by decide) rfl ?_
        dsimp only [List.set, Nat.reduceAdd]
        refine r_goto C (tgt := 4) dX5_allThatWouldSet_35 rfl ?_
        exact ih _ _ (by rw [sb_s, if_neg (by simp only [decide_eq_true_eq]; unfold FA; omega)]; omega) (by omega)
      · refine r_iload_n C rfl dX5_allThatWouldSet_26 ?_
        refine r_iconst C dX5_allThatWouldSet_27 ?_
        refine r_iload_n C rfl dX5_allThatWouldSet_28 ?_
        refine r_ishl C (v := 2 ^ i) (zb_shl (by omega)) dX5_allThatWouldSet_29 ?_
        refine r_ior C (v := s + 2 ^ i) (zb_or (by omega) (by omega) (by omega)) dX5_allThatWouldSet_30 ?_
        refine r_istore_n C dX5_allThatWouldSet_31 2 rfl (by decide) rfl ?_
        dsimp only [List.set, Nat.reduceAdd]
        refine r_iinc C dX5_allThatWouldSet_32 rfl (by decide) rfl ?_
        dsimp only [List.set, Nat.reduceAdd]
        refine r_goto C (tgt := 4) dX5_allThatWouldSet_35 rfl ?_
        exact ih _ _ (by rw [sb_s, if_pos (by simp only [decide_eq_true_eq]; unfold FA; omega)]; omega) (by omega)
  refine r_iconst C dX5_allThatWouldSet_0 ?_
  refine r_istore_n C dX5_allThatWouldSet_1 2 rfl (by decide) rfl ?_
  dsimp only [List.set, Nat.reduceAdd]
  refine r_iconst C dX5_allThatWouldSet_2 ?_
  refine r_istore_n C dX5_allThatWouldSet_3 3 rfl (by decide) rfl ?_
  dsimp only [List.set, Nat.reduceAdd]
  exact lp 0 (Nat.zero_le _) _ _ rfl rfl
set_option maxRecDepth 10000 in
set_option maxHeartbeats 1000000 in
theorem c_offend30 (M : Mm_) {a : Int} (h0 : -1 ≤ a) (h1 : a < M.1 3 4 * 3) (hv : oV M) (hg : ∀ i, i < 4 → 0 ≤ M.1 31 i ∧ M.1 31 i ≤ 99) : Cn 1 kX5_offend [.ref 3, .ref 30, .int (zI a)] M (pV (mR M 31 (sl1 (M.1 6) a (M.1 31)))) := by
  refine Cn.of rfl (Nat.le_of_ble_eq_true rfl) (fun G C E => ?_)
  show G 0 [.ref 3, .ref 30, .int (zI a), .null] [] M
  have hv0 := hv.1
  by_cases ha : 0 ≤ a
  · have hgr := hv.2.2.2.1 a.toNat (by omega)
    have hgi := hg (a / 3).toNat (by omega)
    refine r_aload_n C rfl dX5_offend_0 ?_
    refine r_iload_n C rfl dX5_offend_1 ?_
    refine r_cVb C dX5_offend_2 vw_X5_71 (c_hasSlight M (rgm (by omega) (by omega)) hv) (by decide) rfl ly_3 rfl rfl (Nat.le_of_ble_eq_true rfl) (fun h2 => ?_) (fun h2 => absurd (by omega) h2)
    refine r_if_eq C (tgt := 36) dX5_offend_5 rfl (by first | assumption | exact rgm (by omega) (by omega)) (fun h5 => absurd h5 (by decide)) (fun h5 => ?_)
    refine r_iload_n C rfl dX5_offend_8 ?_
    refine r_iconst C dX5_offend_9 ?_
    refine r_idiv C (by omega) (by omega) (by first | assumption | exact rgm (by omega) (by omega)) (by first | assumption | exact rgm (by omega) (by omega)) dX5_offend_10 ?_
    refine r_istore_n C dX5_offend_11 3 rfl (by decide) rfl ?_
    dsimp only [List.set, Nat.reduceAdd]
    refine r_aload_n C rfl dX5_offend_12 ?_
    refine r_getr C dX5_offend_13 fl_X5_75 ly_30 rfl ?_
    refine r_iload_n C rfl dX5_offend_16 ?_
    refine r_bipush C rfl dX5_offend_17 ?_
    refine r_aload_n C rfl dX5_offend_19 ?_
    refine r_getr C dX5_offend_20 fl_X5_75 ly_30 rfl ?_
    refine r_iload_n C rfl dX5_offend_23 ?_
    refine r_iald C dX5_offend_24 ly_31 (k := (a / 3).toNat) (by omega) (by omega) ?_
    refine r_aload_n C rfl dX5_offend_25 ?_
    refine r_getr C dX5_offend_26 fl_X5_18 ly_3 rfl ?_
    refine r_iload_n C rfl dX5_offend_29 ?_
    refine r_iald C dX5_offend_30 ly_6 (k := a.toNat) (by omega) (by omega) ?_
    refine r_iadd C dX5_offend_31 ?_
    refine r_min C dX5_offend_32 ml_X5_30 mm_st_min mm_in mm_cw_min (by decide) (Nat.le_of_ble_eq_true rfl) (by first | assumption | exact rgm (by omega) (by omega)) (by first | assumption | exact rgm (by omega) (by omega)) ?_
    refine r_iast C dX5_offend_35 ly_31 (k := (a / 3).toNat) (by omega) (by omega) ?_
    exact r_vret E dX5_offend_36 (by
      refine ⟨rfl, ?_⟩
      rw [mU_R]
      congr 1
      funext j
      unfold sl1
      by_cases hj : j = (a / 3).toNat
      · rw [if_pos hj, if_pos (show ((j : Int) = a / 3 ∧ 0 ≤ a) from ⟨by omega, ha⟩), hj]
        unfold tp
        split <;> split <;> omega
      · rw [if_neg hj, if_neg (by omega)])
  · have e : a = -1 := by omega
    refine r_aload_n C rfl dX5_offend_0 ?_
    refine r_iload_n C rfl dX5_offend_1 ?_
    refine r_cVb C dX5_offend_2 vw_X5_71 (c_hasSlight M (rgm (by omega) (by omega)) hv) (by decide) rfl ly_3 rfl rfl (Nat.le_of_ble_eq_true rfl) (fun h2 => absurd h2 (by omega)) (fun h2 => ?_)
    refine r_if_eq C (tgt := 36) dX5_offend_5 rfl (by first | assumption | exact rgm (by omega) (by omega)) (fun h5 => ?_) (fun h5 => absurd h5 (by decide))
    exact r_vret E dX5_offend_36 (by refine ⟨rfl, ?_⟩; rw [e, sl1_m, mR_self])
set_option maxRecDepth 10000 in
set_option maxHeartbeats 1000000 in
theorem c_passNight30 (M : Mm_) (hv : oV M) (hg : ∀ i, i < 4 → 0 ≤ M.1 31 i ∧ M.1 31 i ≤ 99) : Cn 1 kX5_passNight [.ref 3, .ref 30] M (pV (mR M 31 (nt (M.1 4) (M.1 3 4).toNat (M.1 31)))) := by
  have hv0 := hv.1
  obtain ⟨n, hn⟩ : ∃ n : Nat, M.1 3 4 = n := ⟨(M.1 3 4).toNat, by omega⟩
  have en : (M.1 3 4).toNat = n := by omega
  rw [en]
  refine Cn.of rfl (Nat.le_of_ble_eq_true rfl) (fun G C E => ?_)
  show G 0 [.ref 3, .ref 30, .null] [] M
  have lp : ∀ i, i ≤ n → ∀ z : Int, z = i → G 2 [.ref 3, .ref 30, .int (zI z)] [] (mR M 31 (nt (M.1 4) i (M.1 31))) := by
    refine lpN n ?_ ?_
    · intro z hz
      have e1 : (mR M 31 (nt (M.1 4) n (M.1 31))).1 3 4 = n := by rw [mR_ne (by decide)]; exact hn
      refine r_iload_n C rfl dX5_passNight_2 ?_
      refine r_aload_n C rfl dX5_passNight_3 ?_
      refine r_geti C dX5_passNight_4 fl_X5_36 ly_3 rfl ?_
      refine r_icmp_ge C (tgt := 37) dX5_passNight_7 rfl (by first | assumption | exact rgm (by omega) (by omega)) (by first | assumption | exact rgm (by omega) (by omega)) (fun h7 => ?_) (fun h7 => absurd h7 (by omega))
      exact r_vret E dX5_passNight_37 ⟨rfl, rfl⟩
    · intro i hi ih z hz
      have e1 : (mR M 31 (nt (M.1 4) i (M.1 31))).1 3 4 = n := by rw [mR_ne (by decide)]; exact hn
      have e2 : (mR M 31 (nt (M.1 4) i (M.1 31))).1 4 i = M.1 4 i := by rw [mR_ne (by decide)]
      have e3 : (mR M 31 (nt (M.1 4) i (M.1 31))).1 31 i = M.1 31 i := by rw [mR_eq]; unfold nt; rw [if_neg (by omega)]
      refine r_iload_n C rfl dX5_passNight_2 ?_
      refine r_aload_n C rfl dX5_passNight_3 ?_
      refine r_geti C dX5_passNight_4 fl_X5_36 ly_3 rfl ?_
      refine r_icmp_ge C (tgt := 37) dX5_passNight_7 rfl (by first | assumption | exact rgm (by omega) (by omega)) (by first | assumption | exact rgm (by omega) (by omega)) (fun h7 => absurd h7 (by omega)) (fun h7 => ?_)
      refine r_aload_n C rfl dX5_passNight_10 ?_
      refine r_getr C dX5_passNight_11 fl_X5_75 ly_30 rfl ?_
      refine r_iload_n C rfl dX5_passNight_14 ?_
      refine r_aload_n C rfl dX5_passNight_15 ?_
      refine r_getr C dX5_passNight_16 fl_X5_9 ly_3 rfl ?_
      refine r_iload_n C rfl dX5_passNight_19 ?_
      refine r_iald C dX5_passNight_20 ly_4 hz (by omega) ?_
      rw [e2]
      refine r_aload_n C rfl dX5_passNight_21 ?_
      refine r_getr C dX5_passNight_22 fl_X5_75 ly_30 rfl ?_
      refine r_iload_n C rfl dX5_passNight_25 ?_
      refine r_iald C dX5_passNight_26 ly_31 hz (by omega) ?_
      rw [e3]
      refine r_cSz C dX5_passNight_27 sw_X5_78 (c_overnight _ (hv.2.1 i (by omega)) (hg i (by omega))) (by decide) rfl rfl (Nat.le_of_ble_eq_true rfl) ?_
      refine r_iast C dX5_passNight_30 ly_31 hz (by omega) ?_
      have e4 : mU (mR M 31 (nt (M.1 4) i (M.1 31))) 31 i (ng (M.1 4 i) (M.1 31 i)) = mR M 31 (nt (M.1 4) (i + 1) (M.1 31)) := by
        rw [mU_mR]
        congr 1
        funext j
        unfold nt
        by_cases h1 : j = i
        · rw [if_pos h1, if_pos (by omega), h1]
        · rw [if_neg h1]
          by_cases h2 : j < i
          · rw [if_pos h2, if_pos (by omega)]
          · rw [if_neg h2, if_neg (by omega)]
      rw [e4]
      refine r_iinc C dX5_passNight_31 rfl (by decide) rfl ?_
      dsimp only [List.set, Nat.reduceAdd]
      refine r_goto C (tgt := 2) dX5_passNight_34 rfl ?_
      exact ih _ (by omega)
  refine r_iconst C dX5_passNight_0 ?_
  refine r_istore_n C dX5_passNight_1 2 rfl (by decide) rfl ?_
  dsimp only [List.set, Nat.reduceAdd]
  have h0 := lp 0 (Nat.zero_le _) 0 rfl
  rw [show nt (M.1 4) 0 (M.1 31) = M.1 31 from rfl, mR_self] at h0
  exact h0
set_option maxRecDepth 10000 in
set_option maxHeartbeats 1000000 in
theorem c_wouldSet30 (M : Mm_) {k : Nat} (hk : (k : Int) < M.1 3 5) (hv : oV M) (hf : oF (M.1 31) (M.1 32) (M.1 30 7) (M.1 35) (M.1 36)) : Cn 2 kX5_wouldSet [.ref 3, .ref 30, .int (zI k)] M (pB (M.1 7 k ≤ FA (M.1 31) (M.1 32) (M.1 30 7) (M.1 35) (M.1 36) k) M) := by
  refine Cn.of rfl (Nat.le_of_ble_eq_true rfl) (fun G C E => ?_)
  show G 0 [.ref 3, .ref 30, .int (zI (k : Int))] [] M
  have hv0 := hv.1
  have hw := hv.2.2.2.2 k (by omega)
  have hF := FA_b (q := (k : Int)) hf
  unfold FA at hF
  refine r_aload_n C rfl dX5_wouldSet_0 ?_
  refine r_iload_n C rfl dX5_wouldSet_1 ?_
  refine r_cVb C dX5_wouldSet_2 vw_X5_81 (c_hasPail M (rgm (by omega) (by omega)) hv) (by decide) rfl ly_3 rfl rfl (Nat.le_of_ble_eq_true rfl) (fun h2 => ?_) (fun h2 => absurd (by omega) h2)
  refine r_if_eq C (tgt := 26) dX5_wouldSet_5 rfl (by first | assumption | exact rgm (by omega) (by omega)) (fun h5 => absurd h5 (by decide)) (fun h5 => ?_)
  refine r_aload_n C rfl dX5_wouldSet_8 ?_
  refine r_iload_n C rfl dX5_wouldSet_9 ?_
  refine r_cVz C dX5_wouldSet_10 vw_X5_84 (c_forceAt30 M (by omega) hf.1 hf.2.1 hf.2.2.1 hf.2.2.2.1 hf.2.2.2.2) (by decide) rfl ly_30 rfl rfl (Nat.le_of_ble_eq_true rfl) ?_
  refine r_aload_n C rfl dX5_wouldSet_13 ?_
  refine r_getr C dX5_wouldSet_14 fl_X5_21 ly_3 rfl ?_
  refine r_iload_n C rfl dX5_wouldSet_17 ?_
  refine r_iald C dX5_wouldSet_18 ly_7 rfl (by omega) ?_
  refine r_icmp_lt C (tgt := 26) dX5_wouldSet_19 rfl (by first | assumption | exact rgm (by omega) (by omega)) (by first | assumption | exact rgm (by omega) (by omega)) (fun h19 => ?_) (fun h19 => ?_)
  · refine r_iconst C dX5_wouldSet_26 ?_
    exact r_zret E dX5_wouldSet_27 (by decide) (pB_f (by unfold FA; omega))
  · refine r_iconst C dX5_wouldSet_22 ?_
    refine r_goto C (tgt := 27) dX5_wouldSet_23 rfl ?_
    exact r_zret E dX5_wouldSet_27 (by decide) (pB_t (by unfold FA; omega))
set_option maxRecDepth 10000 in
set_option maxHeartbeats 1000000 in
theorem c_would30 (M : Mm_) (hv : oV M) (hf : oF (M.1 31) (M.1 32) (M.1 30 7) (M.1 35) (M.1 36)) : Cn 2 kX5_allThatWouldSet [.ref 3, .ref 30] M (pZ (WDc (M.1 7) (FA (M.1 31) (M.1 32) (M.1 30 7) (M.1 35) (M.1 36)) (M.1 3 5).toNat) M) := by
  have hv0 := hv.1
  obtain ⟨n, hn⟩ : ∃ n : Nat, M.1 3 5 = n := ⟨(M.1 3 5).toNat, by omega⟩
  have en : (M.1 3 5).toNat = n := by omega
  rw [en]
  refine Cn.of rfl (Nat.le_of_ble_eq_true rfl) (fun G C E => ?_)
  show G 0 [.ref 3, .ref 30, .null, .null] [] M
  have lp : ∀ i, i ≤ n → ∀ s z : Int, s = sb (fun j => decide (M.1 7 j ≤ FA (M.1 31) (M.1 32) (M.1 30 7) (M.1 35) (M.1 36) (j : Int))) i → z = i → G 4 [.ref 3, .ref 30, .int (zI s), .int (zI z)] [] M := by
    refine lpN n ?_ ?_
    · intro s z hs hz 
      refine r_iload_n C rfl dX5_allThatWouldSet_4 ?_
      refine r_aload_n C rfl dX5_allThatWouldSet_5 ?_
      refine r_geti C dX5_allThatWouldSet_6 fl_X5_68 ly_3 rfl ?_
      refine r_icmp_ge C (tgt := 38) dX5_allThatWouldSet_9 rfl (by first | assumption | exact rgm (by omega) (by omega)) (by first | assumption | exact rgm (by omega) (by omega)) (fun h9 => ?_) (fun h9 => absurd h9 (by omega))
      refine r_iload_n C rfl dX5_allThatWouldSet_38 ?_
      exact r_iret E dX5_allThatWouldSet_39 (pZ_of hs)
    · intro i hi ih s z hs hz 
      have hsb9 := sbb (fun j => decide (M.1 7 j ≤ FA (M.1 31) (M.1 32) (M.1 30 7) (M.1 35) (M.1 36) (j : Int))) i
      have hw := hv.2.2.2.2 i (by omega)
      have hF := FA_b (q := (i : Int)) hf
      unfold FA at hF
      subst hz
      have hpw : (2 : Int) ^ i ≤ 64 := by
        rcases (show i = 0 ∨ i = 1 ∨ i = 2 ∨ i = 3 ∨ i = 4 ∨ i = 5 ∨ i = 6 by omega) with rfl | rfl | rfl | rfl | rfl | rfl | rfl <;> decide
      refine r_iload_n C rfl dX5_allThatWouldSet_4 ?_
      refine r_aload_n C rfl dX5_allThatWouldSet_5 ?_
      refine r_geti C dX5_allThatWouldSet_6 fl_X5_68 ly_3 rfl ?_
      refine r_icmp_ge C (tgt := 38) dX5_allThatWouldSet_9 rfl (by first | assumption | exact rgm (by omega) (by omega)) (by first | assumption | exact rgm (by omega) (by omega)) (fun h9 => absurd h9 (by omega)) (fun h9 => ?_)
      refine r_aload_n C rfl dX5_allThatWouldSet_12 ?_
      refine r_iload_n C rfl dX5_allThatWouldSet_13 ?_
      refine r_cVz C dX5_allThatWouldSet_14 vw_X5_84 (c_forceAt30 M (by omega) hf.1 hf.2.1 hf.2.2.1 hf.2.2.2.1 hf.2.2.2.2) (by decide) rfl ly_30 rfl rfl (Nat.le_of_ble_eq_true rfl) ?_
      refine r_aload_n C rfl dX5_allThatWouldSet_17 ?_
      refine r_getr C dX5_allThatWouldSet_18 fl_X5_21 ly_3 rfl ?_
      refine r_iload_n C rfl dX5_allThatWouldSet_21 ?_
      refine r_iald C dX5_allThatWouldSet_22 ly_7 rfl (by omega) ?_
      refine r_icmp_lt C (tgt := 32) dX5_allThatWouldSet_23 rfl (by first | assumption | exact rgm (by omega) (by omega)) (by first | assumption | exact rgm (by omega) (by omega)) (fun h23 => ?_) (fun h23 => ?_)
      · refine r_iinc C dX5_allThatWouldSet_32 rfl (by decide) rfl ?_
        dsimp only [List.set, Nat.reduceAdd]
        refine r_goto C (tgt := 4) dX5_allThatWouldSet_35 rfl ?_
        exact ih _ _ (by rw [sb_s, if_neg (by simp only [decide_eq_true_eq]; unfold FA; omega)]; omega) (by omega)
      · refine r_iload_n C rfl dX5_allThatWouldSet_26 ?_
        refine r_iconst C dX5_allThatWouldSet_27 ?_
        refine r_iload_n C rfl dX5_allThatWouldSet_28 ?_
        refine r_ishl C (v := 2 ^ i) (zb_shl (by omega)) dX5_allThatWouldSet_29 ?_
        refine r_ior C (v := s + 2 ^ i) (zb_or (by omega) (by omega) (by omega)) dX5_allThatWouldSet_30 ?_
        refine r_istore_n C dX5_allThatWouldSet_31 2 rfl (by decide) rfl ?_
        dsimp only [List.set, Nat.reduceAdd]
        refine r_iinc C dX5_allThatWouldSet_32 rfl (by decide) rfl ?_
        dsimp only [List.set, Nat.reduceAdd]
        refine r_goto C (tgt := 4) dX5_allThatWouldSet_35 rfl ?_
        exact ih _ _ (by rw [sb_s, if_pos (by simp only [decide_eq_true_eq]; unfold FA; omega)]; omega) (by omega)
  refine r_iconst C dX5_allThatWouldSet_0 ?_
  refine r_istore_n C dX5_allThatWouldSet_1 2 rfl (by decide) rfl ?_
  dsimp only [List.set, Nat.reduceAdd]
  refine r_iconst C dX5_allThatWouldSet_2 ?_
  refine r_istore_n C dX5_allThatWouldSet_3 3 rfl (by decide) rfl ?_
  dsimp only [List.set, Nat.reduceAdd]
  exact lp 0 (Nat.zero_le _) _ _ rfl rfl
