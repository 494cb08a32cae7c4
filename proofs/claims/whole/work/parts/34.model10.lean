
theorem mS_eq {M T : Mm_} (h : T = M) : mS M T := h ▸ mS_rf
def mSliM (M : Mm_) (k : Nat) (q : Int) : Mm_ := mU (mU (mR M 52 (sl1 (grM M) (3 * (k : Int) + q) (M.1 52))) 50 (3 * k + 2) (M.1 50 (3 * k + 2) + 1)) 48 6 (M.1 48 6 + 1)
def mNigM (M : Mm_) : Mm_ := mU (mR M 52 (nt (kdM M) (M.1 48 3).toNat (M.1 52))) 48 5 (M.1 48 5 + 1)
def wonM (M : Mm_) : Int := WDc (M.1 53) (fM M 52 true) (M.1 48 4).toNat
def curM (M : Mm_) (i : Nat) : Int := sm (fun j => if bt (wonM M) j = 1 ∧ M.1 54 j = 0 then 1 else 0) i
def setM (M : Mm_) (i : Nat) : Nat → Int := fun j => if j < i ∧ bt (wonM M) j = 1 then 1 else M.1 54 j
theorem setM_n {M : Mm_} {i j : Nat} (h : j ≠ i) : setM M i j = setM M (i + 1) j := by
  unfold setM
  by_cases hj : j < i
  · simp [hj, show j < i + 1 by omega]
  · simp [hj, show ¬ j < i + 1 by omega]
def mCurM (M : Mm_) : Mm_ := mU (mU (mR M 54 (setM M (M.1 48 4).toNat)) 48 8 0) 48 7 (M.1 48 7 + curM M (M.1 48 4).toNat)
def mKeepM (M : Mm_) (b k : Nat) : Mm_ := mU (mU M 55 b (M.1 52 k)) 52 k 0
def mPourM (M : Mm_) (b : Nat) (q : Int) : Mm_ := mU (mU (mU (mU M 56 (2 * (M.1 48 8).toNat) (M.1 55 b)) 56 (2 * (M.1 48 8).toNat + 1) q) 48 8 (M.1 48 8 + 1)) 55 b 0
def whoM (M : Mm_) (set : Int) (n : Nat) : Int := sb (fun num => decide (WDc (M.1 53) (FM M (sl1 (grM M) (num : Int) (M.1 52)) true) (M.1 48 4).toNat = set)) n
def mSeeM (M : Mm_) (k : Nat) (q y : Int) : Mm_ := mU (mU (mU (mU M 60 (3 * (M.1 48 22).toNat) k) 60 (3 * (M.1 48 22).toNat + 1) q) 60 (3 * (M.1 48 22).toNat + 2) y) 48 22 (M.1 48 22 + 1)
def wkSM (M : Mm_) (st : (Nat → Int) × Int × Int) : (Nat → Int) × Int × Int :=
  let p := nsd st.2.2 / 65536 % (M.1 48 3)
  let h := nsd (nsd st.2.2) / 65536 % 4
  let g1 := sl1 (grM M) (if h = 3 then -1 else 3 * p + h) st.1
  (nt (kdM M) (M.1 48 3).toNat g1, st.2.1 + ob (WDc (M.1 53) (FM M g1 false) (M.1 48 4).toNat), nsd (nsd st.2.2))
def wkNM (M : Mm_) : Nat → (Nat → Int) × Int × Int → (Nat → Int) × Int × Int
  | 0, st => st
  | k + 1, st => wkSM M (wkNM M k st)

set_option maxRecDepth 10000 in
set_option maxHeartbeats 1000000 in
theorem c_m_slight (M : Mm_) {k : Nat} {q : Int} (hk : (k : Int) < M.1 48 3) (rq : rg q) (hM : oM M) : Cn 2 kX7_slight [.ref 48, .int (zI (k : Int)), .int (zI q)] M (fun r U => r = some (.int (zI (if 0 ≤ q ∧ q ≤ 2 then sl1 (grM M) (3 * (k : Int) + q) (M.1 52) k else -102))) ∧ mS (if 0 ≤ q ∧ q ≤ 2 then mSliM M k q else M) U) := by
  obtain ⟨hpg, hv, hrw, hf, hg, hse, hbo, hst, hni⟩ := hM
  have hv0 : (M.1 48 3 = 0 ∧ M.1 48 4 = 0) ∨ (2 ≤ M.1 48 3 ∧ M.1 48 3 ≤ 4 ∧ 2 ≤ M.1 48 4 ∧ M.1 48 4 ≤ 6) := hv
  have rk : rg (k : Int) := rgm (by omega) (by omega)
  refine Cn.of rfl (Nat.le_of_ble_eq_true rfl) (fun G C E => ?_)
  show G 0 [.ref 48, .int (zI (k : Int)), .int (zI q)] [] M
  refine r_aload_n C rfl dX7_slight_0 ?_
  refine r_iload_n C rfl dX7_slight_1 ?_
  refine r_cVb C dX7_slight_2 vw_X7_188 (c_isPerson M rk hv) (by decide) rfl ly_48 rfl rfl (Nat.le_of_ble_eq_true rfl) (fun h2 => ?_) (fun h2 => absurd (by omega) h2)
  refine r_if_ne C (tgt := 11) dX7_slight_5 rfl (by first | assumption | exact rgm (by omega) (by omega)) (fun h5 => ?_) (fun h5 => absurd h5 (by decide))
  refine r_iload_n C rfl dX7_slight_11 ?_
  refine r_i2l C dX7_slight_12 ?_
  refine r_lconst C dX7_slight_13 ?_
  refine r_ldc2 C dX7_slight_14 kc_X7_231 ?_
  refine r_cSb C dX7_slight_17 sw_X7_76 (c_inZ M (b := 0) (c := 2) rq rfl rfl) (by decide) rfl rfl (Nat.le_of_ble_eq_true rfl) (fun h17 => ?_) (fun h17 => ?_)
  · refine r_if_ne C (tgt := 26) dX7_slight_20 rfl (by first | assumption | exact rgm (by omega) (by omega)) (fun h20 => ?_) (fun h20 => absurd h20 (by decide))
    refine r_aload_n C rfl dX7_slight_26 ?_
    refine r_aload_n C rfl dX7_slight_27 ?_
    refine r_getr C dX7_slight_28 fl_X7_19 ly_48 rfl ?_
    refine r_iconst C dX7_slight_31 ?_
    refine r_iload_n C rfl dX7_slight_32 ?_
    refine r_imul C dX7_slight_33 ?_
    refine r_iload_n C rfl dX7_slight_34 ?_
    refine r_iadd C dX7_slight_35 ?_
    refine r_cVv C dX7_slight_36 vw_X7_209 (c_slightOn M ly_52 (by omega) (by omega) hrw hg) (by decide) rfl ly_48 rfl rfl (Nat.le_of_ble_eq_true rfl) ?_
    refine r_aload_n C rfl dX7_slight_39 ?_
    refine r_getr C dX7_slight_40 fl_X7_13 ly_48 rfl ?_
    refine r_iconst C dX7_slight_43 ?_
    refine r_iload_n C rfl dX7_slight_44 ?_
    refine r_imul C dX7_slight_45 ?_
    refine r_iconst C dX7_slight_46 ?_
    refine r_iadd C dX7_slight_47 ?_
    refine r_dup2 C rfl rfl dX7_slight_48 ?_
    refine r_iald C dX7_slight_49 ly_50 (k := 3 * k + 2) (by omega) (by omega) ?_
    refine r_iconst C dX7_slight_50 ?_
    refine r_iadd C dX7_slight_51 ?_
    refine r_iast C dX7_slight_52 ly_50 (k := 3 * k + 2) (by omega) (by omega) ?_
    refine r_aload_n C rfl dX7_slight_53 ?_
    refine r_dup C rfl dX7_slight_54 ?_
    refine r_geti C dX7_slight_55 fl_X7_118 ly_48 rfl ?_
    refine r_iconst C dX7_slight_58 ?_
    refine r_iadd C dX7_slight_59 ?_
    refine r_put C dX7_slight_60 fl_X7_118 rfl (Or.inl rfl) ly_48 rfl ?_
    refine r_aload_n C rfl dX7_slight_63 ?_
    refine r_getr C dX7_slight_64 fl_X7_19 ly_48 rfl ?_
    refine r_iload_n C rfl dX7_slight_67 ?_
    refine r_iald C dX7_slight_68 ly_52 rfl (by omega) ?_
    exact r_iret E dX7_slight_69 ⟨by rw [if_pos (by omega)]; simp [mU, mR], by rw [if_pos (by omega)]; refine mS_eq ?_; unfold mSliM; simp [mU, mR]⟩
  · refine r_if_ne C (tgt := 26) dX7_slight_20 rfl (by first | assumption | exact rgm (by omega) (by omega)) (fun h20 => absurd h20 (by decide)) (fun h20 => ?_)
    refine r_bipush C rfl dX7_slight_23 ?_
    exact r_iret E dX7_slight_25 ⟨by rw [if_neg (by omega)], by rw [if_neg (by omega)]; exact mS_rf⟩
set_option maxRecDepth 10000 in
set_option maxHeartbeats 1000000 in
theorem c_m_slight_no (M : Mm_) {a w : Int} (ra : rg a) (ha : ¬ (0 ≤ a ∧ a < M.1 48 3)) (hM : oM M) : Cn 2 kX7_slight [.ref 48, .int (zI a), .int (zI w)] M (pS (-101) M) := by
  obtain ⟨hpg, hv, hrw, hf, hg, hse, hbo, hst, hni⟩ := hM
  have hv0 : (M.1 48 3 = 0 ∧ M.1 48 4 = 0) ∨ (2 ≤ M.1 48 3 ∧ M.1 48 3 ≤ 4 ∧ 2 ≤ M.1 48 4 ∧ M.1 48 4 ≤ 6) := hv
  refine Cn.of rfl (Nat.le_of_ble_eq_true rfl) (fun G C E => ?_)
  show G 0 [.ref 48, .int (zI a), .int (zI w)] [] M
  refine r_aload_n C rfl dX7_slight_0 ?_
  refine r_iload_n C rfl dX7_slight_1 ?_
  refine r_cVb C dX7_slight_2 vw_X7_188 (c_isPerson M ra hv) (by decide) rfl ly_48 rfl rfl (Nat.le_of_ble_eq_true rfl) (fun h2 => absurd h2 (by omega)) (fun h2 => ?_)
  refine r_if_ne C (tgt := 11) dX7_slight_5 rfl (by first | assumption | exact rgm (by omega) (by omega)) (fun h5 => absurd h5 (by decide)) (fun h5 => ?_)
  refine r_bipush C rfl dX7_slight_8 ?_
  exact r_iret E dX7_slight_10 ⟨rfl, mS_rf⟩
set_option maxRecDepth 10000 in
set_option maxHeartbeats 1000000 in
theorem c_m_soothe (M : Mm_) {k : Nat} (hk : (k : Int) < M.1 48 3) (hM : oM M) : Cn 2 kX7_soothe [.ref 48, .int (zI (k : Int))] M (fun r U => r = some (.int (zI (M.1 52 k))) ∧ mS (mU M 52 k 0) U) := by
  obtain ⟨hpg, hv, hrw, hf, hg, hse, hbo, hst, hni⟩ := hM
  have hv0 : (M.1 48 3 = 0 ∧ M.1 48 4 = 0) ∨ (2 ≤ M.1 48 3 ∧ M.1 48 3 ≤ 4 ∧ 2 ≤ M.1 48 4 ∧ M.1 48 4 ≤ 6) := hv
  have rk : rg (k : Int) := rgm (by omega) (by omega)
  refine Cn.of rfl (Nat.le_of_ble_eq_true rfl) (fun G C E => ?_)
  show G 0 [.ref 48, .int (zI (k : Int)), .null] [] M
  refine r_aload_n C rfl dX7_soothe_0 ?_
  refine r_iload_n C rfl dX7_soothe_1 ?_
  refine r_cVb C dX7_soothe_2 vw_X7_188 (c_isPerson M rk hv) (by decide) rfl ly_48 rfl rfl (Nat.le_of_ble_eq_true rfl) (fun h2 => ?_) (fun h2 => absurd (by omega) h2)
  refine r_if_ne C (tgt := 11) dX7_soothe_5 rfl (by first | assumption | exact rgm (by omega) (by omega)) (fun h5 => ?_) (fun h5 => absurd h5 (by decide))
  refine r_aload_n C rfl dX7_soothe_11 ?_
  refine r_getr C dX7_soothe_12 fl_X7_19 ly_48 rfl ?_
  refine r_iload_n C rfl dX7_soothe_15 ?_
  refine r_iald C dX7_soothe_16 ly_52 rfl (by omega) ?_
  refine r_istore_n C dX7_soothe_17 2 rfl (by decide) rfl ?_
  dsimp only [List.set, Nat.reduceAdd]
  refine r_aload_n C rfl dX7_soothe_18 ?_
  refine r_getr C dX7_soothe_19 fl_X7_19 ly_48 rfl ?_
  refine r_iload_n C rfl dX7_soothe_22 ?_
  refine r_iconst C dX7_soothe_23 ?_
  refine r_iast C dX7_soothe_24 ly_52 rfl (by omega) ?_
  refine r_iload_n C rfl dX7_soothe_25 ?_
  exact r_iret E dX7_soothe_26 ⟨rfl, mS_rf⟩
set_option maxRecDepth 10000 in
set_option maxHeartbeats 1000000 in
theorem c_m_soothe_no (M : Mm_) {a : Int} (ra : rg a) (ha : ¬ (0 ≤ a ∧ a < M.1 48 3)) (hM : oM M) : Cn 2 kX7_soothe [.ref 48, .int (zI a)] M (pS (-101) M) := by
  obtain ⟨hpg, hv, hrw, hf, hg, hse, hbo, hst, hni⟩ := hM
  have hv0 : (M.1 48 3 = 0 ∧ M.1 48 4 = 0) ∨ (2 ≤ M.1 48 3 ∧ M.1 48 3 ≤ 4 ∧ 2 ≤ M.1 48 4 ∧ M.1 48 4 ≤ 6) := hv
  refine Cn.of rfl (Nat.le_of_ble_eq_true rfl) (fun G C E => ?_)
  show G 0 [.ref 48, .int (zI a), .null] [] M
  refine r_aload_n C rfl dX7_soothe_0 ?_
  refine r_iload_n C rfl dX7_soothe_1 ?_
  refine r_cVb C dX7_soothe_2 vw_X7_188 (c_isPerson M ra hv) (by decide) rfl ly_48 rfl rfl (Nat.le_of_ble_eq_true rfl) (fun h2 => absurd h2 (by omega)) (fun h2 => ?_)
  refine r_if_ne C (tgt := 11) dX7_soothe_5 rfl (by first | assumption | exact rgm (by omega) (by omega)) (fun h5 => absurd h5 (by decide)) (fun h5 => ?_)
  refine r_bipush C rfl dX7_soothe_8 ?_
  exact r_iret E dX7_soothe_10 ⟨rfl, mS_rf⟩
set_option maxRecDepth 10000 in
set_option maxHeartbeats 1000000 in
theorem c_m_sit (M : Mm_) {k : Nat} {q : Int} (hk : (k : Int) < M.1 48 3) (rq : rg q) (hq : 0 ≤ q ∧ q < 6) (hM : oM M) : Cn 2 kX7_sit [.ref 48, .int (zI (k : Int)), .int (zI q)] M (fun r U => r = some (.int (zI (M.1 51 k))) ∧ mS (mU M 51 k q) U) := by
  obtain ⟨hpg, hv, hrw, hf, hg, hse, hbo, hst, hni⟩ := hM
  have hv0 : (M.1 48 3 = 0 ∧ M.1 48 4 = 0) ∨ (2 ≤ M.1 48 3 ∧ M.1 48 3 ≤ 4 ∧ 2 ≤ M.1 48 4 ∧ M.1 48 4 ≤ 6) := hv
  have rk : rg (k : Int) := rgm (by omega) (by omega)
  refine Cn.of rfl (Nat.le_of_ble_eq_true rfl) (fun G C E => ?_)
  show G 0 [.ref 48, .int (zI (k : Int)), .int (zI q), .null] [] M
  refine r_aload_n C rfl dX7_sit_0 ?_
  refine r_iload_n C rfl dX7_sit_1 ?_
  refine r_cVb C dX7_sit_2 vw_X7_188 (c_isPerson M rk hv) (by decide) rfl ly_48 rfl rfl (Nat.le_of_ble_eq_true rfl) (fun h2 => ?_) (fun h2 => absurd (by omega) h2)
  refine r_if_eq C (tgt := 16) dX7_sit_5 rfl (by first | assumption | exact rgm (by omega) (by omega)) (fun h5 => absurd h5 (by decide)) (fun h5 => ?_)
  refine r_aload_n C rfl dX7_sit_8 ?_
  refine r_iload_n C rfl dX7_sit_9 ?_
  refine r_cVb C dX7_sit_10 vw_X7_233 (c_isPlaceM M rq hv) (by decide) rfl ly_48 rfl rfl (Nat.le_of_ble_eq_true rfl) (fun h10 => ?_) (fun h10 => absurd (by omega) h10)
  refine r_if_ne C (tgt := 19) dX7_sit_13 rfl (by first | assumption | exact rgm (by omega) (by omega)) (fun h13 => ?_) (fun h13 => absurd h13 (by decide))
  refine r_aload_n C rfl dX7_sit_19 ?_
  refine r_getr C dX7_sit_20 fl_X7_16 ly_48 rfl ?_
  refine r_iload_n C rfl dX7_sit_23 ?_
  refine r_iald C dX7_sit_24 ly_51 rfl (by omega) ?_
  refine r_istore_n C dX7_sit_25 3 rfl (by decide) rfl ?_
  dsimp only [List.set, Nat.reduceAdd]
  refine r_aload_n C rfl dX7_sit_26 ?_
  refine r_getr C dX7_sit_27 fl_X7_16 ly_48 rfl ?_
  refine r_iload_n C rfl dX7_sit_30 ?_
  refine r_iload_n C rfl dX7_sit_31 ?_
  refine r_iast C dX7_sit_32 ly_51 rfl (by omega) ?_
  refine r_iload_n C rfl dX7_sit_33 ?_
  exact r_iret E dX7_sit_34 ⟨rfl, mS_rf⟩
set_option maxRecDepth 10000 in
set_option maxHeartbeats 1000000 in
theorem c_m_sit_no (M : Mm_) {a w : Int} (ra : rg a) (rw_ : rg w) (ha : ¬ ((0 ≤ a ∧ a < M.1 48 3) ∧ (0 ≤ w ∧ w < 6))) (hM : oM M) : Cn 2 kX7_sit [.ref 48, .int (zI a), .int (zI w)] M (pS (-101) M) := by
  obtain ⟨hpg, hv, hrw, hf, hg, hse, hbo, hst, hni⟩ := hM
  have hv0 : (M.1 48 3 = 0 ∧ M.1 48 4 = 0) ∨ (2 ≤ M.1 48 3 ∧ M.1 48 3 ≤ 4 ∧ 2 ≤ M.1 48 4 ∧ M.1 48 4 ≤ 6) := hv
  refine Cn.of rfl (Nat.le_of_ble_eq_true rfl) (fun G C E => ?_)
  show G 0 [.ref 48, .int (zI a), .int (zI w), .null] [] M
  refine r_aload_n C rfl dX7_sit_0 ?_
  refine r_iload_n C rfl dX7_sit_1 ?_
  refine r_cVb C dX7_sit_2 vw_X7_188 (c_isPerson M ra hv) (by decide) rfl ly_48 rfl rfl (Nat.le_of_ble_eq_true rfl) (fun h2 => ?_) (fun h2 => ?_)
  · refine r_if_eq C (tgt := 16) dX7_sit_5 rfl (by first | assumption | exact rgm (by omega) (by omega)) (fun h5 => absurd h5 (by decide)) (fun h5 => ?_)
    refine r_aload_n C rfl dX7_sit_8 ?_
    refine r_iload_n C rfl dX7_sit_9 ?_
    refine r_cVb C dX7_sit_10 vw_X7_233 (c_isPlaceM M rw_ hv) (by decide) rfl ly_48 rfl rfl (Nat.le_of_ble_eq_true rfl) (fun h10 => absurd h10 (by omega)) (fun h10 => ?_)
    refine r_if_ne C (tgt := 19) dX7_sit_13 rfl (by first | assumption | exact rgm (by omega) (by omega)) (fun h13 => absurd h13 (by decide)) (fun h13 => ?_)
    refine r_bipush C rfl dX7_sit_16 ?_
    exact r_iret E dX7_sit_18 ⟨rfl, mS_rf⟩
  · refine r_if_eq C (tgt := 16) dX7_sit_5 rfl (by first | assumption | exact rgm (by omega) (by omega)) (fun h5 => ?_) (fun h5 => absurd h5 (by decide))
    refine r_bipush C rfl dX7_sit_16 ?_
    exact r_iret E dX7_sit_18 ⟨rfl, mS_rf⟩
set_option maxRecDepth 10000 in
set_option maxHeartbeats 1000000 in
theorem c_m_night (M : Mm_) (hM : oM M) : Cn 1 kX7_night [.ref 48] M (fun r U => r = some (.int (zI (if 0 < M.1 48 3 then (if 99 ≤ M.1 48 5 then -104 else M.1 48 5 + 1) else -103))) ∧ mS (if 0 < M.1 48 3 ∧ M.1 48 5 < 99 then mNigM M else M) U) := by
  obtain ⟨hpg, hv, hrw, hf, hg, hse, hbo, hst, hni⟩ := hM
  have hv0 : (M.1 48 3 = 0 ∧ M.1 48 4 = 0) ∨ (2 ≤ M.1 48 3 ∧ M.1 48 3 ≤ 4 ∧ 2 ≤ M.1 48 4 ∧ M.1 48 4 ≤ 6) := hv
  refine Cn.of rfl (Nat.le_of_ble_eq_true rfl) (fun G C E => ?_)
  show G 0 [.ref 48] [] M
  refine r_aload_n C rfl dX7_night_0 ?_
  refine r_cVb C dX7_night_1 vw_X7_133 (c_lacks M hv) (by decide) rfl ly_48 rfl rfl (Nat.le_of_ble_eq_true rfl) (fun h1 => ?_) (fun h1 => ?_)
  · refine r_if_eq C (tgt := 10) dX7_night_4 rfl (by first | assumption | exact rgm (by omega) (by omega)) (fun h4 => absurd h4 (by decide)) (fun h4 => ?_)
    refine r_bipush C rfl dX7_night_7 ?_
    exact r_iret E dX7_night_9 ⟨by rw [if_neg (by omega)], by rw [if_neg (by omega)]; exact mS_rf⟩
  · refine r_if_eq C (tgt := 10) dX7_night_4 rfl (by first | assumption | exact rgm (by omega) (by omega)) (fun h4 => ?_) (fun h4 => absurd h4 (by decide))
    refine r_aload_n C rfl dX7_night_10 ?_
    refine r_geti C dX7_night_11 fl_X7_115 ly_48 rfl ?_
    refine r_bipush C rfl dX7_night_14 ?_
    refine r_icmp_ne C (tgt := 22) dX7_night_16 rfl (by first | assumption | exact rgm (by omega) (by omega)) (by first | assumption | exact rgm (by omega) (by omega)) (fun h16 => ?_) (fun h16 => ?_)
    · refine r_aload_n C rfl dX7_night_22 ?_
      refine r_aload_n C rfl dX7_night_23 ?_
      refine r_getr C dX7_night_24 fl_X7_19 ly_48 rfl ?_
      refine r_cVv C dX7_night_27 vw_X7_236 (c_nightOn M ly_52 (by decide) hv hrw hg) (by decide) rfl ly_48 rfl rfl (Nat.le_of_ble_eq_true rfl) ?_
      refine r_aload_n C rfl dX7_night_30 ?_
      refine r_dup C rfl dX7_night_31 ?_
      refine r_geti C dX7_night_32 fl_X7_115 ly_48 rfl ?_
      refine r_iconst C dX7_night_35 ?_
      refine r_iadd C dX7_night_36 ?_
      refine r_put C dX7_night_37 fl_X7_115 rfl (Or.inl rfl) ly_48 rfl ?_
      refine r_aload_n C rfl dX7_night_40 ?_
      refine r_geti C dX7_night_41 fl_X7_115 ly_48 rfl ?_
      exact r_iret E dX7_night_44 ⟨by rw [if_pos (by omega), if_neg (by omega)]; simp [mU, mR], by rw [if_pos (by omega)]; refine mS_eq ?_; unfold mNigM; simp [mU, mR]⟩
    · refine r_bipush C rfl dX7_night_19 ?_
      exact r_iret E dX7_night_21 ⟨by rw [if_pos (by omega), if_pos (by omega)], by rw [if_neg (by omega)]; exact mS_rf⟩
set_option maxRecDepth 10000 in
set_option maxHeartbeats 1000000 in
theorem c_m_curdle (M : Mm_) (hM : oM M) : Cn 4 kX7_curdle [.ref 48] M (fun r U => r = some (.int (zI (if 0 < M.1 48 3 then curM M (M.1 48 4).toNat else -103))) ∧ mS (if 0 < M.1 48 3 then mCurM M else M) U) := by
  obtain ⟨hpg, hv, hrw, hf, hg, hse, hbo, hst, hni⟩ := hM
  have hv0 : (M.1 48 3 = 0 ∧ M.1 48 4 = 0) ∨ (2 ≤ M.1 48 3 ∧ M.1 48 3 ≤ 4 ∧ 2 ≤ M.1 48 4 ∧ M.1 48 4 ≤ 6) := hv
  obtain ⟨n, hn⟩ : ∃ n : Nat, M.1 48 4 = n := ⟨(M.1 48 4).toNat, by omega⟩
  have en : (M.1 48 4).toNat = n := by omega
  have hWb := WDc_b (M.1 53) (fM M 52 true) (M.1 48 4).toNat (by omega)
  obtain ⟨W, eW⟩ : ∃ W : Int, W = WDc (M.1 53) (fM M 52 true) (M.1 48 4).toNat := ⟨_, rfl⟩
  rw [← eW] at hWb
  have eW2 : wonM M = W := by rw [eW]; rfl
  refine Cn.of rfl (Nat.le_of_ble_eq_true rfl) (fun G C E => ?_)
  show G 0 [.ref 48, .null, .null, .null] [] M
  have lp : 0 < M.1 48 3 → ∀ i : Nat, i ≤ n → ∀ (s z : Int), s = curM M i → z = i → G 19 [.ref 48, .int (zI W), .int (zI s), .int (zI z)] [] (mR M 54 (setM M i)) := by
    intro hp0
    refine lpN n ?_ ?_
    · intro s z hs hz
      have e4 : (mR M 54 (setM M n)).1 48 4 = n := by rw [mR_ne (by decide)]; exact hn
      refine r_iload_n C rfl dX7_curdle_19 ?_
      refine r_aload_n C rfl dX7_curdle_20 ?_
      refine r_geti C dX7_curdle_21 fl_X7_112 ly_48 rfl ?_
      refine r_icmp_ge C (tgt := 61) dX7_curdle_24 rfl (by first | assumption | exact rgm (by omega) (by omega)) (by first | assumption | exact rgm (by omega) (by omega)) (fun h24 => ?_) (fun h24 => absurd h24 (by omega))
      refine r_aload_n C rfl dX7_curdle_61 ?_
      refine r_iconst C dX7_curdle_62 ?_
      refine r_put C dX7_curdle_63 fl_X7_124 rfl (Or.inl rfl) ly_48 rfl ?_
      refine r_aload_n C rfl dX7_curdle_66 ?_
      refine r_dup C rfl dX7_curdle_67 ?_
      refine r_geti C dX7_curdle_68 fl_X7_121 ly_48 rfl ?_
      refine r_iload_n C rfl dX7_curdle_71 ?_
      refine r_iadd C dX7_curdle_72 ?_
      refine r_put C dX7_curdle_73 fl_X7_121 rfl (Or.inl rfl) ly_48 rfl ?_
      refine r_iload_n C rfl dX7_curdle_76 ?_
      exact r_iret E dX7_curdle_77 ⟨by rw [if_pos hp0, en, hs], by rw [if_pos hp0]; refine mS_eq ?_; unfold mCurM; rw [en, hs]; simp [mU, mR]⟩
    · intro i hi ih s z hs hz
      have e4 : (mR M 54 (setM M i)).1 48 4 = n := by rw [mR_ne (by decide)]; exact hn
      have hbt := bt_b W i
      have hdv := dv_b i hWb.1
      have hst2 := hst i (by omega)
      have e5 : (mR M 54 (setM M i)).1 54 i = M.1 54 i := by rw [mR_eq]; unfold setM; rw [if_neg (by omega)]
      refine r_iload_n C rfl dX7_curdle_19 ?_
      refine r_aload_n C rfl dX7_curdle_20 ?_
      refine r_geti C dX7_curdle_21 fl_X7_112 ly_48 rfl ?_
      refine r_icmp_ge C (tgt := 61) dX7_curdle_24 rfl (by first | assumption | exact rgm (by omega) (by omega)) (by first | assumption | exact rgm (by omega) (by omega)) (fun h24 => absurd h24 (by omega)) (fun h24 => ?_)
      refine r_iload_n C rfl dX7_curdle_27 ?_
      refine r_iload_n C rfl dX7_curdle_28 ?_
      refine r_ishr C (v := W / 2 ^ i) (by rw [hz]; exact zb_shr hWb.1 (by omega) (by omega)) dX7_curdle_29 ?_
      refine r_iconst C dX7_curdle_30 ?_
      refine r_iand C (v := bt W i) (zb_and1 (by omega) (by omega)) dX7_curdle_31 ?_
      refine r_iconst C dX7_curdle_32 ?_
      refine r_icmp_ne C (tgt := 55) dX7_curdle_33 rfl (by first | assumption | exact rgm (by omega) (by omega)) (by first | assumption | exact rgm (by omega) (by omega)) (fun h33 => ?_) (fun h33 => ?_)
      · refine r_iinc C dX7_curdle_55 rfl (by decide) rfl ?_
        dsimp only [List.set, Nat.reduceAdd]
        refine r_goto C (tgt := 19) dX7_curdle_58 rfl ?_
        have e9 : mR M 54 (setM M i) = mR M 54 (setM M (i + 1)) := by
          congr 1
          funext j
          by_cases hj : j = i
          · unfold setM; rw [hj, eW2, if_neg (by omega), if_neg (by omega)]
          · exact setM_n hj
        rw [e9]
        exact ih _ _ (by show s = sm _ i + (if bt (wonM M) i = 1 ∧ M.1 54 i = 0 then 1 else 0); rw [eW2, if_neg (by omega), hs]; unfold curM; rw [eW2]; omega) (by omega)
      · refine r_aload_n C rfl dX7_curdle_36 ?_
        refine r_getr C dX7_curdle_37 fl_X7_25 ly_48 rfl ?_
        refine r_iload_n C rfl dX7_curdle_40 ?_
        refine r_iald C dX7_curdle_41 ly_54 hz (by omega) ?_
        rw [e5]
        refine r_if_ne C (tgt := 55) dX7_curdle_42 rfl (by first | assumption | exact rgm (by omega) (by omega)) (fun h42 => ?_) (fun h42 => ?_)
        · refine r_iinc C dX7_curdle_55 rfl (by decide) rfl ?_
          dsimp only [List.set, Nat.reduceAdd]
          refine r_goto C (tgt := 19) dX7_curdle_58 rfl ?_
          have e9 : mR M 54 (setM M i) = mR M 54 (setM M (i + 1)) := by
            congr 1
            funext j
            by_cases hj : j = i
            · unfold setM; rw [hj, eW2, if_neg (by omega), if_pos (by omega)]; omega
            · exact setM_n hj
          rw [e9]
          exact ih _ _ (by show s = sm _ i + (if bt (wonM M) i = 1 ∧ M.1 54 i = 0 then 1 else 0); rw [eW2, if_neg (by omega), hs]; unfold curM; rw [eW2]; omega) (by omega)
        · refine r_aload_n C rfl dX7_curdle_45 ?_
          refine r_getr C dX7_curdle_46 fl_X7_25 ly_48 rfl ?_
          refine r_iload_n C rfl dX7_curdle_49 ?_
          refine r_iconst C dX7_curdle_50 ?_
          refine r_iast C dX7_curdle_51 ly_54 hz (by omega) ?_
          refine r_iinc C dX7_curdle_52 rfl (by decide) rfl ?_
          dsimp only [List.set, Nat.reduceAdd]
          refine r_iinc C dX7_curdle_55 rfl (by decide) rfl ?_
          dsimp only [List.set, Nat.reduceAdd]
          refine r_goto C (tgt := 19) dX7_curdle_58 rfl ?_
          have e9 : mU (mR M 54 (setM M i)) 54 i 1 = mR M 54 (setM M (i + 1)) := by
            rw [mU_mR]
            congr 1
            funext j
            by_cases hj : j = i
            · unfold setM; rw [if_pos hj, hj, eW2, if_pos (by omega)]
            · rw [if_neg hj]; exact setM_n hj
          rw [e9]
          exact ih _ _ (by show s + 1 = sm _ i + (if bt (wonM M) i = 1 ∧ M.1 54 i = 0 then 1 else 0); rw [eW2, if_pos (by omega), hs]; unfold curM; rw [eW2]) (by omega)
  refine r_aload_n C rfl dX7_curdle_0 ?_
  refine r_cVb C dX7_curdle_1 vw_X7_133 (c_lacks M hv) (by decide) rfl ly_48 rfl rfl (Nat.le_of_ble_eq_true rfl) (fun h1 => ?_) (fun h1 => ?_)
  · refine r_if_eq C (tgt := 10) dX7_curdle_4 rfl (by first | assumption | exact rgm (by omega) (by omega)) (fun h4 => absurd h4 (by decide)) (fun h4 => ?_)
    refine r_bipush C rfl dX7_curdle_7 ?_
    exact r_iret E dX7_curdle_9 ⟨by rw [if_neg (by omega)], by rw [if_neg (by omega)]; exact mS_rf⟩
  · refine r_if_eq C (tgt := 10) dX7_curdle_4 rfl (by first | assumption | exact rgm (by omega) (by omega)) (fun h4 => ?_) (fun h4 => absurd h4 (by decide))
    refine r_aload_n C rfl dX7_curdle_10 ?_
    refine r_cVz C dX7_curdle_11 vw_X7_166 (c_wouldNow M hv hf hg) (by decide) rfl ly_48 rfl rfl (Nat.le_of_ble_eq_true rfl) ?_
    rw [← eW]
    refine r_istore_n C dX7_curdle_14 1 rfl (by decide) rfl ?_
    dsimp only [List.set, Nat.reduceAdd]
    refine r_iconst C dX7_curdle_15 ?_
    refine r_istore_n C dX7_curdle_16 2 rfl (by decide) rfl ?_
    dsimp only [List.set, Nat.reduceAdd]
    refine r_iconst C dX7_curdle_17 ?_
    refine r_istore_n C dX7_curdle_18 3 rfl (by decide) rfl ?_
    dsimp only [List.set, Nat.reduceAdd]
    have h0 := lp (by omega) 0 (Nat.zero_le _) 0 0 rfl rfl
    rw [show setM M 0 = M.1 54 by funext j; unfold setM; rw [if_neg (by omega)], mR_self] at h0
    exact h0
set_option maxRecDepth 10000 in
set_option maxHeartbeats 1000000 in
theorem c_m_fresh (M : Mm_) {k : Nat} (hk : (k : Int) < M.1 48 4) (hM : oM M) : Cn 2 kX7_fresh [.ref 48, .int (zI (k : Int))] M (fun r U => r = some (.int (zI (M.1 54 k))) ∧ mS (mU M 54 k 0) U) := by
  obtain ⟨hpg, hv, hrw, hf, hg, hse, hbo, hst, hni⟩ := hM
  have hv0 : (M.1 48 3 = 0 ∧ M.1 48 4 = 0) ∨ (2 ≤ M.1 48 3 ∧ M.1 48 3 ≤ 4 ∧ 2 ≤ M.1 48 4 ∧ M.1 48 4 ≤ 6) := hv
  have rk : rg (k : Int) := rgm (by omega) (by omega)
  refine Cn.of rfl (Nat.le_of_ble_eq_true rfl) (fun G C E => ?_)
  show G 0 [.ref 48, .int (zI (k : Int)), .null] [] M
  refine r_aload_n C rfl dX7_fresh_0 ?_
  refine r_iload_n C rfl dX7_fresh_1 ?_
  refine r_cVb C dX7_fresh_2 vw_X7_225 (c_isPail M rk hv) (by decide) rfl ly_48 rfl rfl (Nat.le_of_ble_eq_true rfl) (fun h2 => ?_) (fun h2 => absurd (by omega) h2)
  refine r_if_ne C (tgt := 11) dX7_fresh_5 rfl (by first | assumption | exact rgm (by omega) (by omega)) (fun h5 => ?_) (fun h5 => absurd h5 (by decide))
  refine r_aload_n C rfl dX7_fresh_11 ?_
  refine r_getr C dX7_fresh_12 fl_X7_25 ly_48 rfl ?_
  refine r_iload_n C rfl dX7_fresh_15 ?_
  refine r_iald C dX7_fresh_16 ly_54 rfl (by omega) ?_
  refine r_istore_n C dX7_fresh_17 2 rfl (by decide) rfl ?_
  dsimp only [List.set, Nat.reduceAdd]
  refine r_aload_n C rfl dX7_fresh_18 ?_
  refine r_getr C dX7_fresh_19 fl_X7_25 ly_48 rfl ?_
  refine r_iload_n C rfl dX7_fresh_22 ?_
  refine r_iconst C dX7_fresh_23 ?_
  refine r_iast C dX7_fresh_24 ly_54 rfl (by omega) ?_
  refine r_iload_n C rfl dX7_fresh_25 ?_
  exact r_iret E dX7_fresh_26 ⟨rfl, mS_rf⟩
set_option maxRecDepth 10000 in
set_option maxHeartbeats 1000000 in
theorem c_m_fresh_no (M : Mm_) {a : Int} (ra : rg a) (ha : ¬ (0 ≤ a ∧ a < M.1 48 4)) (hM : oM M) : Cn 2 kX7_fresh [.ref 48, .int (zI a)] M (pS (-101) M) := by
  obtain ⟨hpg, hv, hrw, hf, hg, hse, hbo, hst, hni⟩ := hM
  have hv0 : (M.1 48 3 = 0 ∧ M.1 48 4 = 0) ∨ (2 ≤ M.1 48 3 ∧ M.1 48 3 ≤ 4 ∧ 2 ≤ M.1 48 4 ∧ M.1 48 4 ≤ 6) := hv
  refine Cn.of rfl (Nat.le_of_ble_eq_true rfl) (fun G C E => ?_)
  show G 0 [.ref 48, .int (zI a), .null] [] M
  refine r_aload_n C rfl dX7_fresh_0 ?_
  refine r_iload_n C rfl dX7_fresh_1 ?_
  refine r_cVb C dX7_fresh_2 vw_X7_225 (c_isPail M ra hv) (by decide) rfl ly_48 rfl rfl (Nat.le_of_ble_eq_true rfl) (fun h2 => absurd h2 (by omega)) (fun h2 => ?_)
  refine r_if_ne C (tgt := 11) dX7_fresh_5 rfl (by first | assumption | exact rgm (by omega) (by omega)) (fun h5 => absurd h5 (by decide)) (fun h5 => ?_)
  refine r_bipush C rfl dX7_fresh_8 ?_
  exact r_iret E dX7_fresh_10 ⟨rfl, mS_rf⟩
set_option maxRecDepth 10000 in
set_option maxHeartbeats 1000000 in
theorem c_m_force (M : Mm_) {a : Int} (ra : rg a) (hM : oM M) : Cn 3 kX7_force [.ref 48, .int (zI a)] M (fun r U => r = some (.int (zI (if 0 < M.1 48 3 ∧ 0 ≤ a ∧ a < 6 then fM M 52 true a else -101))) ∧ mS (M) U) := by
  obtain ⟨hpg, hv, hrw, hf, hg, hse, hbo, hst, hni⟩ := hM
  have hv0 : (M.1 48 3 = 0 ∧ M.1 48 4 = 0) ∨ (2 ≤ M.1 48 3 ∧ M.1 48 3 ≤ 4 ∧ 2 ≤ M.1 48 4 ∧ M.1 48 4 ≤ 6) := hv
  refine Cn.of rfl (Nat.le_of_ble_eq_true rfl) (fun G C E => ?_)
  show G 0 [.ref 48, .int (zI a)] [] M
  refine r_aload_n C rfl dX7_force_0 ?_
  refine r_iload_n C rfl dX7_force_1 ?_
  refine r_cVb C dX7_force_2 vw_X7_233 (c_isPlaceM M ra hv) (by decide) rfl ly_48 rfl rfl (Nat.le_of_ble_eq_true rfl) (fun h2 => ?_) (fun h2 => ?_)
  · refine r_if_eq C (tgt := 16) dX7_force_5 rfl (by first | assumption | exact rgm (by omega) (by omega)) (fun h5 => absurd h5 (by decide)) (fun h5 => ?_)
    refine r_aload_n C rfl dX7_force_8 ?_
    refine r_iload_n C rfl dX7_force_9 ?_
    refine r_cVz C dX7_force_10 vw_X7_196 (c_forceAtM M (by omega) hv hf hg) (by decide) rfl ly_48 rfl rfl (Nat.le_of_ble_eq_true rfl) ?_
    refine r_goto C (tgt := 18) dX7_force_13 rfl ?_
    exact r_iret E dX7_force_18 ⟨by rw [if_pos (by omega)], mS_rf⟩
  · refine r_if_eq C (tgt := 16) dX7_force_5 rfl (by first | assumption | exact rgm (by omega) (by omega)) (fun h5 => ?_) (fun h5 => absurd h5 (by decide))
    refine r_bipush C rfl dX7_force_16 ?_
    exact r_iret E dX7_force_18 ⟨by rw [if_neg (by omega)], mS_rf⟩
set_option maxRecDepth 10000 in
set_option maxHeartbeats 1000000 in
theorem c_m_bottle (M : Mm_) {a : Int} (ra : rg a) (hM : oM M) : Cn 2 kX7_bottle [.ref 48, .int (zI a)] M (fun r U => r = some (.int (zI (if 0 < M.1 48 3 ∧ 0 ≤ a ∧ a < 4 then M.1 55 a.toNat else -101))) ∧ mS (M) U) := by
  obtain ⟨hpg, hv, hrw, hf, hg, hse, hbo, hst, hni⟩ := hM
  have hv0 : (M.1 48 3 = 0 ∧ M.1 48 4 = 0) ∨ (2 ≤ M.1 48 3 ∧ M.1 48 3 ≤ 4 ∧ 2 ≤ M.1 48 4 ∧ M.1 48 4 ≤ 6) := hv
  refine Cn.of rfl (Nat.le_of_ble_eq_true rfl) (fun G C E => ?_)
  show G 0 [.ref 48, .int (zI a)] [] M
  refine r_aload_n C rfl dX7_bottle_0 ?_
  refine r_iload_n C rfl dX7_bottle_1 ?_
  refine r_cVb C dX7_bottle_2 vw_X7_240 (c_isBottle M ra hv) (by decide) rfl ly_48 rfl rfl (Nat.le_of_ble_eq_true rfl) (fun h2 => ?_) (fun h2 => ?_)
  · refine r_if_eq C (tgt := 17) dX7_bottle_5 rfl (by first | assumption | exact rgm (by omega) (by omega)) (fun h5 => absurd h5 (by decide)) (fun h5 => ?_)
    refine r_aload_n C rfl dX7_bottle_8 ?_
    refine r_getr C dX7_bottle_9 fl_X7_28 ly_48 rfl ?_
    refine r_iload_n C rfl dX7_bottle_12 ?_
    refine r_iald C dX7_bottle_13 ly_55 (k := a.toNat) (by omega) (by omega) ?_
    refine r_goto C (tgt := 19) dX7_bottle_14 rfl ?_
    exact r_iret E dX7_bottle_19 ⟨by rw [if_pos (by omega)], mS_rf⟩
  · refine r_if_eq C (tgt := 17) dX7_bottle_5 rfl (by first | assumption | exact rgm (by omega) (by omega)) (fun h5 => ?_) (fun h5 => absurd h5 (by decide))
    refine r_bipush C rfl dX7_bottle_17 ?_
    exact r_iret E dX7_bottle_19 ⟨by rw [if_neg (by omega)], mS_rf⟩
set_option maxRecDepth 10000 in
set_option maxHeartbeats 1000000 in
theorem c_m_would (M : Mm_) (hM : oM M) : Cn 4 kX7_would [.ref 48] M (fun r U => r = some (.int (zI (if 0 < M.1 48 3 then wonM M else -103))) ∧ mS (M) U) := by
  obtain ⟨hpg, hv, hrw, hf, hg, hse, hbo, hst, hni⟩ := hM
  have hv0 : (M.1 48 3 = 0 ∧ M.1 48 4 = 0) ∨ (2 ≤ M.1 48 3 ∧ M.1 48 3 ≤ 4 ∧ 2 ≤ M.1 48 4 ∧ M.1 48 4 ≤ 6) := hv
  refine Cn.of rfl (Nat.le_of_ble_eq_true rfl) (fun G C E => ?_)
  show G 0 [.ref 48] [] M
  refine r_aload_n C rfl dX7_would_0 ?_
  refine r_cVb C dX7_would_1 vw_X7_133 (c_lacks M hv) (by decide) rfl ly_48 rfl rfl (Nat.le_of_ble_eq_true rfl) (fun h1 => ?_) (fun h1 => ?_)
  · refine r_if_eq C (tgt := 12) dX7_would_4 rfl (by first | assumption | exact rgm (by omega) (by omega)) (fun h4 => absurd h4 (by decide)) (fun h4 => ?_)
    refine r_bipush C rfl dX7_would_7 ?_
    refine r_goto C (tgt := 16) dX7_would_9 rfl ?_
    exact r_iret E dX7_would_16 ⟨by rw [if_neg (by omega)], mS_rf⟩
  · refine r_if_eq C (tgt := 12) dX7_would_4 rfl (by first | assumption | exact rgm (by omega) (by omega)) (fun h4 => ?_) (fun h4 => absurd h4 (by decide))
    refine r_aload_n C rfl dX7_would_12 ?_
    refine r_cVz C dX7_would_13 vw_X7_166 (c_wouldNow M hv hf hg) (by decide) rfl ly_48 rfl rfl (Nat.le_of_ble_eq_true rfl) ?_
    exact r_iret E dX7_would_16 ⟨by rw [if_pos (by omega)]; rfl, mS_rf⟩
set_option maxRecDepth 10000 in
set_option maxHeartbeats 1000000 in
theorem c_m_keep (M : Mm_) {b k : Nat} (hb4 : b < 4) (hk : (k : Int) < M.1 48 3) (hM : oM M) : Cn 2 kX7_keep [.ref 48, .int (zI (b : Int)), .int (zI (k : Int))] M (fun r U => r = some (.int (zI (if M.1 55 b ≤ 0 ∧ M.1 52 k ≠ 0 then M.1 52 k else -103))) ∧ mS (if M.1 55 b ≤ 0 ∧ M.1 52 k ≠ 0 then mKeepM M b k else M) U) := by
  obtain ⟨hpg, hv, hrw, hf, hg, hse, hbo, hst, hni⟩ := hM
  have hv0 : (M.1 48 3 = 0 ∧ M.1 48 4 = 0) ∨ (2 ≤ M.1 48 3 ∧ M.1 48 3 ≤ 4 ∧ 2 ≤ M.1 48 4 ∧ M.1 48 4 ≤ 6) := hv
  have rk : rg (k : Int) := rgm (by omega) (by omega)
  have hbb := hbo b (by omega)
  have hgk := hg k (by omega)
  refine Cn.of rfl (Nat.le_of_ble_eq_true rfl) (fun G C E => ?_)
  show G 0 [.ref 48, .int (zI (b : Int)), .int (zI (k : Int))] [] M
  refine r_aload_n C rfl dX7_keep_0 ?_
  refine r_iload_n C rfl dX7_keep_1 ?_
  refine r_cVb C dX7_keep_2 vw_X7_240 (c_isBottle M (rgm (by omega) (by omega)) hv) (by decide) rfl ly_48 rfl rfl (Nat.le_of_ble_eq_true rfl) (fun h2 => ?_) (fun h2 => absurd (by omega) h2)
  refine r_if_eq C (tgt := 16) dX7_keep_5 rfl (by first | assumption | exact rgm (by omega) (by omega)) (fun h5 => absurd h5 (by decide)) (fun h5 => ?_)
  refine r_aload_n C rfl dX7_keep_8 ?_
  refine r_iload_n C rfl dX7_keep_9 ?_
  refine r_cVb C dX7_keep_10 vw_X7_188 (c_isPerson M rk hv) (by decide) rfl ly_48 rfl rfl (Nat.le_of_ble_eq_true rfl) (fun h10 => ?_) (fun h10 => absurd (by omega) h10)
  refine r_if_ne C (tgt := 19) dX7_keep_13 rfl (by first | assumption | exact rgm (by omega) (by omega)) (fun h13 => ?_) (fun h13 => absurd h13 (by decide))
  refine r_aload_n C rfl dX7_keep_19 ?_
  refine r_getr C dX7_keep_20 fl_X7_28 ly_48 rfl ?_
  refine r_iload_n C rfl dX7_keep_23 ?_
  refine r_iald C dX7_keep_24 ly_55 rfl (by omega) ?_
  refine r_if_gt C (tgt := 37) dX7_keep_25 rfl (by first | assumption | exact rgm (by omega) (by omega)) (fun h25 => ?_) (fun h25 => ?_)
  · refine r_bipush C rfl dX7_keep_37 ?_
    exact r_iret E dX7_keep_39 ⟨by rw [if_neg (by omega)], by rw [if_neg (by omega)]; exact mS_rf⟩
  · refine r_aload_n C rfl dX7_keep_28 ?_
    refine r_getr C dX7_keep_29 fl_X7_19 ly_48 rfl ?_
    refine r_iload_n C rfl dX7_keep_32 ?_
    refine r_iald C dX7_keep_33 ly_52 rfl (by omega) ?_
    refine r_if_ne C (tgt := 40) dX7_keep_34 rfl (by first | assumption | exact rgm (by omega) (by omega)) (fun h34 => ?_) (fun h34 => ?_)
    · refine r_aload_n C rfl dX7_keep_40 ?_
      refine r_getr C dX7_keep_41 fl_X7_28 ly_48 rfl ?_
      refine r_iload_n C rfl dX7_keep_44 ?_
      refine r_aload_n C rfl dX7_keep_45 ?_
      refine r_getr C dX7_keep_46 fl_X7_19 ly_48 rfl ?_
      refine r_iload_n C rfl dX7_keep_49 ?_
      refine r_iald C dX7_keep_50 ly_52 rfl (by omega) ?_
      refine r_iast C dX7_keep_51 ly_55 rfl (by omega) ?_
      refine r_aload_n C rfl dX7_keep_52 ?_
      refine r_getr C dX7_keep_53 fl_X7_19 ly_48 rfl ?_
      refine r_iload_n C rfl dX7_keep_56 ?_
      refine r_iconst C dX7_keep_57 ?_
      refine r_iast C dX7_keep_58 ly_52 rfl (by omega) ?_
      refine r_aload_n C rfl dX7_keep_59 ?_
      refine r_getr C dX7_keep_60 fl_X7_28 ly_48 rfl ?_
      refine r_iload_n C rfl dX7_keep_63 ?_
      refine r_iald C dX7_keep_64 ly_55 rfl (by omega) ?_
      exact r_iret E dX7_keep_65 ⟨by rw [if_pos (by omega)]; simp [mU], by rw [if_pos (by omega)]; refine mS_eq ?_; unfold mKeepM; simp [mU]⟩
    · refine r_bipush C rfl dX7_keep_37 ?_
      exact r_iret E dX7_keep_39 ⟨by rw [if_neg (by omega)], by rw [if_neg (by omega)]; exact mS_rf⟩
set_option maxRecDepth 10000 in
set_option maxHeartbeats 1000000 in
theorem c_m_keep_no (M : Mm_) {a w : Int} (ra : rg a) (rw_ : rg w) (ha : ¬ ((0 < M.1 48 3 ∧ 0 ≤ a ∧ a < 4) ∧ (0 ≤ w ∧ w < M.1 48 3))) (hM : oM M) : Cn 2 kX7_keep [.ref 48, .int (zI a), .int (zI w)] M (pS (-101) M) := by
  obtain ⟨hpg, hv, hrw, hf, hg, hse, hbo, hst, hni⟩ := hM
  have hv0 : (M.1 48 3 = 0 ∧ M.1 48 4 = 0) ∨ (2 ≤ M.1 48 3 ∧ M.1 48 3 ≤ 4 ∧ 2 ≤ M.1 48 4 ∧ M.1 48 4 ≤ 6) := hv
  refine Cn.of rfl (Nat.le_of_ble_eq_true rfl) (fun G C E => ?_)
  show G 0 [.ref 48, .int (zI a), .int (zI w)] [] M
  refine r_aload_n C rfl dX7_keep_0 ?_
  refine r_iload_n C rfl dX7_keep_1 ?_
  refine r_cVb C dX7_keep_2 vw_X7_240 (c_isBottle M ra hv) (by decide) rfl ly_48 rfl rfl (Nat.le_of_ble_eq_true rfl) (fun h2 => ?_) (fun h2 => ?_)
  · refine r_if_eq C (tgt := 16) dX7_keep_5 rfl (by first | assumption | exact rgm (by omega) (by omega)) (fun h5 => absurd h5 (by decide)) (fun h5 => ?_)
    refine r_aload_n C rfl dX7_keep_8 ?_
    refine r_iload_n C rfl dX7_keep_9 ?_
    refine r_cVb C dX7_keep_10 vw_X7_188 (c_isPerson M rw_ hv) (by decide) rfl ly_48 rfl rfl (Nat.le_of_ble_eq_true rfl) (fun h10 => absurd h10 (by omega)) (fun h10 => ?_)
    refine r_if_ne C (tgt := 19) dX7_keep_13 rfl (by first | assumption | exact rgm (by omega) (by omega)) (fun h13 => absurd h13 (by decide)) (fun h13 => ?_)
    refine r_bipush C rfl dX7_keep_16 ?_
    exact r_iret E dX7_keep_18 ⟨rfl, mS_rf⟩
  · refine r_if_eq C (tgt := 16) dX7_keep_5 rfl (by first | assumption | exact rgm (by omega) (by omega)) (fun h5 => ?_) (fun h5 => absurd h5 (by decide))
    refine r_bipush C rfl dX7_keep_16 ?_
    exact r_iret E dX7_keep_18 ⟨rfl, mS_rf⟩
set_option maxRecDepth 10000 in
set_option maxHeartbeats 1000000 in
theorem c_m_pour (M : Mm_) {b : Nat} {q : Int} (hb4 : b < 4) (hn0 : 0 < M.1 48 3) (rq : rg q) (hq : 0 ≤ q ∧ q < 6) (hM : oM M) : Cn 2 kX7_pour [.ref 48, .int (zI (b : Int)), .int (zI q)] M (fun r U => r = some (.int (zI (if M.1 55 b = 0 then -103 else if 4 ≤ M.1 48 8 then -104 else M.1 55 b))) ∧ mS (if M.1 55 b ≠ 0 ∧ M.1 48 8 < 4 then mPourM M b q else M) U) := by
  obtain ⟨hpg, hv, hrw, hf, hg, hse, hbo, hst, hni⟩ := hM
  have hv0 : (M.1 48 3 = 0 ∧ M.1 48 4 = 0) ∨ (2 ≤ M.1 48 3 ∧ M.1 48 3 ≤ 4 ∧ 2 ≤ M.1 48 4 ∧ M.1 48 4 ≤ 6) := hv
  have hbb := hbo b (by omega)
  have hpm := hf.2.1
  obtain ⟨s, es⟩ := Int.eq_ofNat_of_zero_le hpm.1
  refine Cn.of rfl (Nat.le_of_ble_eq_true rfl) (fun G C E => ?_)
  show G 0 [.ref 48, .int (zI (b : Int)), .int (zI q), .null] [] M
  refine r_aload_n C rfl dX7_pour_0 ?_
  refine r_iload_n C rfl dX7_pour_1 ?_
  refine r_cVb C dX7_pour_2 vw_X7_240 (c_isBottle M (rgm (by omega) (by omega)) hv) (by decide) rfl ly_48 rfl rfl (Nat.le_of_ble_eq_true rfl) (fun h2 => ?_) (fun h2 => absurd (by omega) h2)
  refine r_if_eq C (tgt := 16) dX7_pour_5 rfl (by first | assumption | exact rgm (by omega) (by omega)) (fun h5 => absurd h5 (by decide)) (fun h5 => ?_)
  refine r_aload_n C rfl dX7_pour_8 ?_
  refine r_iload_n C rfl dX7_pour_9 ?_
  refine r_cVb C dX7_pour_10 vw_X7_233 (c_isPlaceM M rq hv) (by decide) rfl ly_48 rfl rfl (Nat.le_of_ble_eq_true rfl) (fun h10 => ?_) (fun h10 => absurd (by omega) h10)
  refine r_if_ne C (tgt := 19) dX7_pour_13 rfl (by first | assumption | exact rgm (by omega) (by omega)) (fun h13 => ?_) (fun h13 => absurd h13 (by decide))
  refine r_aload_n C rfl dX7_pour_19 ?_
  refine r_getr C dX7_pour_20 fl_X7_28 ly_48 rfl ?_
  refine r_iload_n C rfl dX7_pour_23 ?_
  refine r_iald C dX7_pour_24 ly_55 rfl (by omega) ?_
  refine r_if_ne C (tgt := 31) dX7_pour_25 rfl (by first | assumption | exact rgm (by omega) (by omega)) (fun h25 => ?_) (fun h25 => ?_)
  · refine r_aload_n C rfl dX7_pour_31 ?_
    refine r_geti C dX7_pour_32 fl_X7_124 ly_48 rfl ?_
    refine r_iconst C dX7_pour_35 ?_
    refine r_icmp_ne C (tgt := 42) dX7_pour_36 rfl (by first | assumption | exact rgm (by omega) (by omega)) (by first | assumption | exact rgm (by omega) (by omega)) (fun h36 => ?_) (fun h36 => ?_)
    · refine r_aload_n C rfl dX7_pour_42 ?_
      refine r_getr C dX7_pour_43 fl_X7_28 ly_48 rfl ?_
      refine r_iload_n C rfl dX7_pour_46 ?_
      refine r_iald C dX7_pour_47 ly_55 rfl (by omega) ?_
      refine r_istore_n C dX7_pour_48 3 rfl (by decide) rfl ?_
      dsimp only [List.set, Nat.reduceAdd]
      refine r_aload_n C rfl dX7_pour_49 ?_
      refine r_getr C dX7_pour_50 fl_X7_31 ly_48 rfl ?_
      refine r_iconst C dX7_pour_53 ?_
      refine r_aload_n C rfl dX7_pour_54 ?_
      refine r_geti C dX7_pour_55 fl_X7_124 ly_48 rfl ?_
      refine r_imul C dX7_pour_58 ?_
      refine r_iload_n C rfl dX7_pour_59 ?_
      refine r_iast C dX7_pour_60 ly_56 (k := 2 * s) (by omega) (by omega) ?_
      refine r_aload_n C rfl dX7_pour_61 ?_
      refine r_getr C dX7_pour_62 fl_X7_31 ly_48 rfl ?_
      refine r_iconst C dX7_pour_65 ?_
      refine r_aload_n C rfl dX7_pour_66 ?_
      refine r_geti C dX7_pour_67 fl_X7_124 ly_48 rfl ?_
      refine r_imul C dX7_pour_70 ?_
      refine r_iconst C dX7_pour_71 ?_
      refine r_iadd C dX7_pour_72 ?_
      refine r_iload_n C rfl dX7_pour_73 ?_
      refine r_iast C dX7_pour_74 ly_56 (k := 2 * s + 1) (by rw [mU_ne (by decide)]; omega) (by omega) ?_
      refine r_aload_n C rfl dX7_pour_75 ?_
      refine r_dup C rfl dX7_pour_76 ?_
      refine r_geti C dX7_pour_77 fl_X7_124 ly_48 rfl ?_
      refine r_iconst C dX7_pour_80 ?_
      refine r_iadd C dX7_pour_81 ?_
      refine r_put C dX7_pour_82 fl_X7_124 rfl (Or.inl rfl) ly_48 rfl ?_
      refine r_aload_n C rfl dX7_pour_85 ?_
      refine r_getr C dX7_pour_86 fl_X7_28 ly_48 rfl ?_
      refine r_iload_n C rfl dX7_pour_89 ?_
      refine r_iconst C dX7_pour_90 ?_
      refine r_iast C dX7_pour_91 ly_55 rfl (by omega) ?_
      refine r_iload_n C rfl dX7_pour_92 ?_
      exact r_iret E dX7_pour_93 ⟨by rw [if_neg (by omega), if_neg (by omega)], by rw [if_pos (by omega)]; refine mS_eq ?_; unfold mPourM; rw [show (M.1 48 8).toNat = s by omega]; simp [mU]⟩
    · refine r_bipush C rfl dX7_pour_39 ?_
      exact r_iret E dX7_pour_41 ⟨by rw [if_neg (by omega), if_pos (by omega)], by rw [if_neg (by omega)]; exact mS_rf⟩
  · refine r_bipush C rfl dX7_pour_28 ?_
    exact r_iret E dX7_pour_30 ⟨by rw [if_pos (by omega)], by rw [if_neg (by omega)]; exact mS_rf⟩
set_option maxRecDepth 10000 in
set_option maxHeartbeats 1000000 in
theorem c_m_pour_no (M : Mm_) {a w : Int} (ra : rg a) (rw_ : rg w) (ha : ¬ ((0 < M.1 48 3 ∧ 0 ≤ a ∧ a < 4) ∧ (0 ≤ w ∧ w < 6))) (hM : oM M) : Cn 2 kX7_pour [.ref 48, .int (zI a), .int (zI w)] M (pS (-101) M) := by
  obtain ⟨hpg, hv, hrw, hf, hg, hse, hbo, hst, hni⟩ := hM
  have hv0 : (M.1 48 3 = 0 ∧ M.1 48 4 = 0) ∨ (2 ≤ M.1 48 3 ∧ M.1 48 3 ≤ 4 ∧ 2 ≤ M.1 48 4 ∧ M.1 48 4 ≤ 6) := hv
  refine Cn.of rfl (Nat.le_of_ble_eq_true rfl) (fun G C E => ?_)
  show G 0 [.ref 48, .int (zI a), .int (zI w), .null] [] M
  refine r_aload_n C rfl dX7_pour_0 ?_
  refine r_iload_n C rfl dX7_pour_1 ?_
  refine r_cVb C dX7_pour_2 vw_X7_240 (c_isBottle M ra hv) (by decide) rfl ly_48 rfl rfl (Nat.le_of_ble_eq_true rfl) (fun h2 => ?_) (fun h2 => ?_)
  · refine r_if_eq C (tgt := 16) dX7_pour_5 rfl (by first | assumption | exact rgm (by omega) (by omega)) (fun h5 => absurd h5 (by decide)) (fun h5 => ?_)
    refine r_aload_n C rfl dX7_pour_8 ?_
    refine r_iload_n C rfl dX7_pour_9 ?_
    refine r_cVb C dX7_pour_10 vw_X7_233 (c_isPlaceM M rw_ hv) (by decide) rfl ly_48 rfl rfl (Nat.le_of_ble_eq_true rfl) (fun h10 => absurd h10 (by omega)) (fun h10 => ?_)
    refine r_if_ne C (tgt := 19) dX7_pour_13 rfl (by first | assumption | exact rgm (by omega) (by omega)) (fun h13 => absurd h13 (by decide)) (fun h13 => ?_)
    refine r_bipush C rfl dX7_pour_16 ?_
    exact r_iret E dX7_pour_18 ⟨rfl, mS_rf⟩
  · refine r_if_eq C (tgt := 16) dX7_pour_5 rfl (by first | assumption | exact rgm (by omega) (by omega)) (fun h5 => ?_) (fun h5 => absurd h5 (by decide))
    refine r_bipush C rfl dX7_pour_16 ?_
    exact r_iret E dX7_pour_18 ⟨rfl, mS_rf⟩
