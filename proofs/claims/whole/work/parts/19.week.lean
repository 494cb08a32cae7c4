
def fo (f : Nat → Int × List Int → Int × List Int) : Nat → Int × List Int → Int × List Int
  | 0, b => b
  | k + 1, b => f k (fo f k b)
def fd (V : Nat → (Nat → Int) → Int) (S : Int → (Nat → Int) → (Nat → Int)) (Nx : (Nat → Int) → (Nat → Int)) (N : Nat) : Nat → Nat → (Nat → Int) → Int → List Int → Int × List Int → Int × List Int
  | 0, _, _, sets, pre, b => if b.1 < sets then (sets, pre) else b
  | r + 1, day, g, sets, pre, b => fo (fun k b => fd V S Nx N r (day + 1) (Nx (S ((k : Int) - 1) g)) (sets + V day (S ((k : Int) - 1) g)) (pre ++ [(k : Int) - 1]) b) (N + 1) b
theorem fd_prune {V : Nat → (Nat → Int) → Int} {S : Int → (Nat → Int) → (Nat → Int)} {Nx : (Nat → Int) → (Nat → Int)} {N : Nat} {m : Int} (hV : ∀ day g, 0 ≤ V day g ∧ V day g ≤ m) : ∀ (r day : Nat) (g : Nat → Int) (sets : Int) (pre : List Int) (b : Int × List Int), sets + r * m ≤ b.1 → fd V S Nx N r day g sets pre b = b
  | 0, day, g, sets, pre, b, h => by
    show (if _ then _ else _) = _
    rw [if_neg (by simp at h; omega)]
  | r + 1, day, g, sets, pre, b, h => by
    have key : ∀ k, fo (fun k b => fd V S Nx N r (day + 1) (Nx (S ((k : Int) - 1) g)) (sets + V day (S ((k : Int) - 1) g)) (pre ++ [(k : Int) - 1]) b) k b = b := by
      intro k
      induction k with
      | zero => rfl
      | succ k ih =>
        show fd V S Nx N r (day + 1) _ _ _ (fo _ k b) = b
        rw [ih]
        refine fd_prune hV r (day + 1) _ _ _ b ?_
        have h1 := hV day (S ((k : Int) - 1) g)
        have e : ((r + 1 : Nat) : Int) * m = r * m + m := by rw [show ((r + 1 : Nat) : Int) = (r : Int) + 1 by omega, Int.add_mul, Int.one_mul]
        rw [e] at h
        omega
    exact key (N + 1)
theorem fd_b {V : Nat → (Nat → Int) → Int} {S : Int → (Nat → Int) → (Nat → Int)} {Nx : (Nat → Int) → (Nat → Int)} {N : Nat} (hV : ∀ day g, 0 ≤ V day g ∧ V day g ≤ 6) : ∀ (r day : Nat) (g : Nat → Int) (sets : Int) (pre : List Int) (b : Int × List Int), 0 ≤ sets → sets + 6 * r ≤ 18 → -1 ≤ b.1 ∧ b.1 ≤ 18 → -1 ≤ (fd V S Nx N r day g sets pre b).1 ∧ (fd V S Nx N r day g sets pre b).1 ≤ 18
  | 0, day, g, sets, pre, b, h0, h1, hb => by
    unfold fd
    split
    · simp only; omega
    · exact hb
  | r + 1, day, g, sets, pre, b, h0, h1, hb => by
    have key : ∀ k, -1 ≤ (fo (fun k b => fd V S Nx N r (day + 1) (Nx (S ((k : Int) - 1) g)) (sets + V day (S ((k : Int) - 1) g)) (pre ++ [(k : Int) - 1]) b) k b).1 ∧ (fo (fun k b => fd V S Nx N r (day + 1) (Nx (S ((k : Int) - 1) g)) (sets + V day (S ((k : Int) - 1) g)) (pre ++ [(k : Int) - 1]) b) k b).1 ≤ 18 := by
      intro k
      induction k with
      | zero => exact hb
      | succ k ih =>
        have h2 := hV day (S ((k : Int) - 1) g)
        exact fd_b hV r (day + 1) _ _ _ _ (by omega) (by omega) ih
    exact key (N + 1)
theorem ob_sb (c : Nat → Bool) {m : Nat} (hm : m ≤ 12) : ob (sb c m) = sm (fun k => if c k then 1 else 0) m := by
  have h1 : ∀ k, k < 12 → bt (sb c m) k = if k < m ∧ c k then 1 else 0 := by
    intro k _
    by_cases h : k < m
    · rw [sb_bt c h]
      by_cases hc : c k <;> simp [h, hc]
    · rw [bt_out (sbb c m).1 (sbb c m).2 (by omega), if_neg (by simp [h])]
  have h2 : ∀ j, j ≤ 12 → sm (bt (sb c m)) j = sm (fun k => if c k then 1 else 0) (min j m) := by
    intro j
    induction j with
    | zero => intro _; simp [sm]
    | succ j ih =>
      intro hj
      show sm (bt (sb c m)) j + bt (sb c m) j = _
      rw [ih (by omega), h1 j (by omega)]
      by_cases h : j < m
      · rw [show min (j + 1) m = j + 1 by omega, show min j m = j by omega]
        by_cases hc : c j <;> simp [sm, h, hc]
      · rw [show min (j + 1) m = m by omega, show min j m = m by omega, if_neg (by simp [h])]
        omega
  have := h2 12 (by omega)
  rw [show min 12 m = m by omega] at this
  exact this
theorem ob_WD (w : Nat → Int) (f : Int → Int) {m : Nat} (hm : m ≤ 6) : 0 ≤ ob (WDc w f m) ∧ ob (WDc w f m) ≤ m := by
  unfold WDc
  rw [ob_sb _ (by omega)]
  have := sm_le (f := fun k : Nat => if (decide (w k ≤ f (k : Int))) then (1 : Int) else 0) (c := 1) (n := m) (fun i _ => by split <;> omega)
  omega
def dayV (w p : Nat → Int) (dc : Int) (dr dp : Nat → Int) (m : Nat) (day : Nat) (g : Nat → Int) : Int := ob (WDc w (FA g p (if day = 0 then dc else 0) dr dp) m)
def weekD (w p : Nat → Int) (dc : Int) (dr dp : Nat → Int) (m : Nat) (gr kd : Nat → Int) (n : Nat) := fd (dayV w p dc dr dp m) (sl1 gr) (nt kd n) (3 * n)
theorem dayV_b (w p : Nat → Int) (dc : Int) (dr dp : Nat → Int) {m : Nat} (hm : m ≤ 6) (day : Nat) (g : Nat → Int) : 0 ≤ dayV w p dc dr dp m day g ∧ dayV w p dc dr dp m day g ≤ m := ob_WD _ _ hm
/-- the best so far, in the outlook's cells -/
def RB (T : Mm_) (days : Nat) (b : Int × List Int) : Prop := T.1 41 4 = b.1 ∧ (b.1 ≠ -1 → ∀ t, t < days → T.1 43 t = b.2.getD t 0)
def t3 (T : Mm_) (pl dr dp : Nat → Int) : Prop := T.1 32 = pl ∧ T.1 35 = dr ∧ T.1 36 = dp
theorem t3_R {T : Mm_} {pl dr dp f : Nat → Int} {i : Nat} (h : t3 T pl dr dp) (hi : i ≠ 32 ∧ i ≠ 35 ∧ i ≠ 36) : t3 (mR T i f) pl dr dp := by
  unfold t3
  rw [mR_ne (by omega), mR_ne (by omega), mR_ne (by omega)]
  exact h
theorem t3_U {T : Mm_} {pl dr dp : Nat → Int} {i j : Nat} {z : Int} (h : t3 T pl dr dp) (hi : i ≠ 32 ∧ i ≠ 35 ∧ i ≠ 36) : t3 (mU T i j z) pl dr dp := by
  unfold t3
  rw [mU_ne (by omega), mU_ne (by omega), mU_ne (by omega)]
  exact h
theorem RB_R {T : Mm_} {f : Nat → Int} {i days : Nat} {b : Int × List Int} (h : RB T days b) (hi : i ≠ 41 ∧ i ≠ 43) : RB (mR T i f) days b := by
  unfold RB
  rw [mR_ne (by omega), mR_ne (by omega)]
  exact h
theorem RB_U {T : Mm_} {z : Int} {i j days : Nat} {b : Int × List Int} (h : RB T days b) (hi : i ≠ 41 ∧ i ≠ 43) : RB (mU T i j z) days b := by
  unfold RB
  rw [mU_ne (by omega), mU_ne (by omega)]
  exact h

set_option maxRecDepth 10000 in
set_option maxHeartbeats 1000000 in
theorem c_tryDay  : ∀ (r0 : Nat) (T M : Mm_) (g pl : Nat → Int) (dc : Int) (dr dp : Nat → Int) (day days : Nat) (sets : Int) (pre : List Int) (b : Int × List Int) (z3 z4 : Int), xS M T → T.1 31 = g → t3 T pl dr dp → oF g pl dc dr dp → oV M → 0 < M.1 3 4 → z3 = days → z4 = day → day + r0 = days → days ≤ 3 → (0 ≤ sets ∧ sets ≤ 6 * day) → pre.length = day → (∀ t, t < day → T.1 42 t = pre.getD t 0) → (-1 ≤ b.1 ∧ b.1 ≤ 18) → RB T days b → Cn (3 + r0) kX0_tryDay [.ref 41, .ref 3, .int (zI dc), .int (zI z3), .int (zI z4), .int (zI sets)] T (fun r U => r = none ∧ xS M U ∧ t3 U pl dr dp ∧ (∀ j, j < day → U.1 42 j = T.1 42 j) ∧ (∀ j, j < day → U.1 (45 + j) = T.1 (45 + j)) ∧ RB U days (weekD (M.1 7) pl dc dr dp (M.1 3 5).toNat (M.1 6) (M.1 4) (M.1 3 4).toNat r0 day g sets pre b)) := by
  intro r0
  induction r0 with
  | zero =>
    intro T M g pl dc dr dp day days sets pre b z3 z4 hS hg ht hf hv hpos h3 h4 hdr hd3 hse hpl hpr hbb hB
    have hn := oV_n hv
    obtain ⟨mm, em⟩ : ∃ mm : Nat, M.1 3 5 = mm := ⟨(M.1 3 5).toNat, by omega⟩
    have em2 : (M.1 3 5).toNat = mm := by omega
    have e3 := hS.1 3 (by omega)
    have hrm : (z3 - z4) * M.1 3 5 = (0 : Int) * mm := by rw [em, h3, h4, show ((days : Int) - day) = (0 : Int) by omega]
    have hV := fun day g => dayV_b (M.1 7) pl dc dr dp (m := (M.1 3 5).toNat) (by omega) day g
    have h41 := hB.1
    refine Cn.of rfl (Nat.le_of_ble_eq_true rfl) (fun G C E => ?_)
    show G 0 [.ref 41, .ref 3, .int (zI dc), .int (zI z3), .int (zI z4), .int (zI sets), .null, .null] [] T
    refine r_iload C rfl dX0_tryDay_0 ?_
    refine r_iload_n C rfl dX0_tryDay_2 ?_
    refine r_iload C rfl dX0_tryDay_3 ?_
    refine r_isub C dX0_tryDay_5 ?_
    refine r_aload_n C rfl dX0_tryDay_6 ?_
    refine r_geti C dX0_tryDay_7 fl_X0_93 ly_3 rfl ?_
    refine r_imul C dX0_tryDay_10 ?_
    refine r_iadd C dX0_tryDay_11 ?_
    refine r_aload_n C rfl dX0_tryDay_12 ?_
    refine r_geti C dX0_tryDay_13 fl_X0_30 ly_41 rfl ?_
    refine r_icmp_gt C (tgt := 20) dX0_tryDay_16 rfl (rgm (by rw [e3, hrm]; omega) (by rw [e3, hrm]; omega)) (rgm (by omega) (by omega)) (fun h16 => ?_) (fun h16 => ?_)
    · refine r_iload C rfl dX0_tryDay_20 ?_
      refine r_iload_n C rfl dX0_tryDay_22 ?_
      refine r_icmp_ge C (tgt := 32) dX0_tryDay_23 rfl (by first | assumption | exact rgm (by omega) (by omega)) (by first | assumption | exact rgm (by omega) (by omega)) (fun h23 => ?_) (fun h23 => absurd h23 (by omega))
      refine r_aload_n C rfl dX0_tryDay_32 ?_
      refine r_iload C rfl dX0_tryDay_33 ?_
      refine r_put C dX0_tryDay_35 fl_X0_30 rfl (Or.inl rfl) ly_41 rfl ?_
      refine r_aload_n C rfl dX0_tryDay_38 ?_
      refine r_getr C dX0_tryDay_39 fl_X0_18 ly_41 rfl ?_
      refine r_iconst C dX0_tryDay_42 ?_
      refine r_aload_n C rfl dX0_tryDay_43 ?_
      refine r_getr C dX0_tryDay_44 fl_X0_22 ly_41 rfl ?_
      refine r_iconst C dX0_tryDay_47 ?_
      refine r_iconst C dX0_tryDay_48 ?_
      refine r_copy C dX0_tryDay_49 ml_X0_77 sc_na sc_st sc_in (by omega) (Nat.le_of_ble_eq_true rfl) ly_42 ly_43 rfl rfl rfl (by decide) (by decide) ?_
      refine r_ext C (eqM_copy (n := 3) rfl) ?_
      exact r_vret E dX0_tryDay_52 (by
        refine ⟨rfl, xS_tr (xS_tr hS (xS_U (by omega))) (xS_R (by omega)), t3_R (t3_U ht (by omega)) (by omega), ?_, ?_, ?_⟩
        · intro j hj
          rw [mR_ne (by decide), mU_ne (by decide)]
        · intro j hj
          rw [mR_ne (by omega), mU_ne (by omega)]
        · unfold weekD fd
          rw [if_pos (by rw [e3, hrm] at h16; omega)]
          refine ⟨by rw [mR_ne (by decide)]; simp [mU], fun _ t ht0 => ?_⟩
          rw [mR_eq, mU_ne (by decide)]
          exact hpr t (by omega))
    · exact r_vret E dX0_tryDay_19 ⟨rfl, hS, ht, fun _ _ => rfl, fun _ _ => rfl, by unfold weekD fd; rw [if_neg (by rw [e3, hrm] at h16; omega)]; exact hB⟩
  | succ r ihr =>
    intro T M g pl dc dr dp day days sets pre b z3 z4 hS hg ht hf hv hpos h3 h4 hdr hd3 hse hpl hpr hbb hB
    have hn := oV_n hv
    obtain ⟨mm, em⟩ : ∃ mm : Nat, M.1 3 5 = mm := ⟨(M.1 3 5).toNat, by omega⟩
    have em2 : (M.1 3 5).toNat = mm := by omega
    have e3 := hS.1 3 (by omega)
    have hrm : (z3 - z4) * M.1 3 5 = (((r + 1 : Nat) : Int) : Int) * mm := by rw [em, h3, h4, show ((days : Int) - day) = (((r + 1 : Nat) : Int) : Int) by omega]
    have hV := fun day g => dayV_b (M.1 7) pl dc dr dp (m := (M.1 3 5).toNat) (by omega) day g
    have h41 := hB.1
    obtain ⟨nn, en⟩ : ∃ nn : Nat, M.1 3 4 = nn := ⟨(M.1 3 4).toNat, by omega⟩
    have en2 : (M.1 3 4).toNat = nn := by omega
    have hrmb : 0 ≤ (z3 - z4) * M.1 3 5 ∧ (z3 - z4) * M.1 3 5 ≤ 18 := by
      rcases (show day = 0 ∨ day = 1 ∨ day = 2 by omega) with h | h | h <;> rcases (show days = 1 ∨ days = 2 ∨ days = 3 by omega) with h9 | h9 | h9 <;> simp only [h3, h4, h, h9] <;> omega
    by_cases hpr0 : sets + (z3 - z4) * M.1 3 5 ≤ b.1
    · have hsame : weekD (M.1 7) pl dc dr dp (M.1 3 5).toNat (M.1 6) (M.1 4) (M.1 3 4).toNat (r + 1) day g sets pre b = b := fd_prune (fun day g => hV day g) (r + 1) day g sets pre b (by rw [hrm] at hpr0; rw [em2]; exact hpr0)
      rw [hsame]
      refine Cn.of rfl (Nat.le_of_ble_eq_true rfl) (fun G C E => ?_)
      show G 0 [.ref 41, .ref 3, .int (zI dc), .int (zI z3), .int (zI z4), .int (zI sets), .null, .null] [] T
      refine r_iload C rfl dX0_tryDay_0 ?_
      refine r_iload_n C rfl dX0_tryDay_2 ?_
      refine r_iload C rfl dX0_tryDay_3 ?_
      refine r_isub C dX0_tryDay_5 ?_
      refine r_aload_n C rfl dX0_tryDay_6 ?_
      refine r_geti C dX0_tryDay_7 fl_X0_93 ly_3 rfl ?_
      refine r_imul C dX0_tryDay_10 ?_
      refine r_iadd C dX0_tryDay_11 ?_
      refine r_aload_n C rfl dX0_tryDay_12 ?_
      refine r_geti C dX0_tryDay_13 fl_X0_30 ly_41 rfl ?_
      refine r_icmp_gt C (tgt := 20) dX0_tryDay_16 rfl (rgm (by rw [e3]; omega) (by rw [e3]; omega)) (rgm (by omega) (by omega)) (fun h16 => absurd h16 (by rw [e3]; omega)) (fun h16 => ?_)
      exact r_vret E dX0_tryDay_19 ⟨rfl, hS, ht, fun _ _ => rfl, fun _ _ => rfl, hB⟩
    rcases (show day = 0 ∨ day = 1 ∨ day = 2 by omega) with hday | hday | hday <;> subst hday
    · have hfb : ∀ i, -1 ≤ (fo (fun k b => weekD (M.1 7) pl dc dr dp (M.1 3 5).toNat (M.1 6) (M.1 4) (M.1 3 4).toNat r (0 + 1) (nt (M.1 4) (M.1 3 4).toNat (sl1 (M.1 6) ((k : Int) - 1) g)) (sets + dayV (M.1 7) pl dc dr dp (M.1 3 5).toNat 0 (sl1 (M.1 6) ((k : Int) - 1) g)) (pre ++ [(k : Int) - 1]) b) i b).1 ∧ (fo (fun k b => weekD (M.1 7) pl dc dr dp (M.1 3 5).toNat (M.1 6) (M.1 4) (M.1 3 4).toNat r (0 + 1) (nt (M.1 4) (M.1 3 4).toNat (sl1 (M.1 6) ((k : Int) - 1) g)) (sets + dayV (M.1 7) pl dc dr dp (M.1 3 5).toNat 0 (sl1 (M.1 6) ((k : Int) - 1) g)) (pre ++ [(k : Int) - 1]) b) i b).1 ≤ 18 := by
        intro i
        induction i with
        | zero => exact hbb
        | succ i ih2 =>
          have h2 := hV 0 (sl1 (M.1 6) ((i : Int) - 1) g)
          exact fd_b (fun day g => by have := hV day g; omega) r (0 + 1) _ _ _ _ (by omega) (by omega) ih2
      have hfin : weekD (M.1 7) pl dc dr dp (M.1 3 5).toNat (M.1 6) (M.1 4) (M.1 3 4).toNat (r + 1) 0 g sets pre b = fo (fun k b => weekD (M.1 7) pl dc dr dp (M.1 3 5).toNat (M.1 6) (M.1 4) (M.1 3 4).toNat r (0 + 1) (nt (M.1 4) (M.1 3 4).toNat (sl1 (M.1 6) ((k : Int) - 1) g)) (sets + dayV (M.1 7) pl dc dr dp (M.1 3 5).toNat 0 (sl1 (M.1 6) ((k : Int) - 1) g)) (pre ++ [(k : Int) - 1]) b) (3 * (M.1 3 4).toNat + 1) b := rfl
      rw [hfin]
      refine Cn.of rfl (Nat.le_of_ble_eq_true rfl) (fun G C E => ?_)
      show G 0 [.ref 41, .ref 3, .int (zI dc), .int (zI z3), .int (zI z4), .int (zI sets), .null, .null] [] T
      have lp : ∀ i : Nat, i ≤ 3 * (M.1 3 4).toNat + 1 → ∀ (T' : Mm_) (z6 : Int) (v7 : Value), xS M T' → t3 T' pl dr dp → T'.1 45 = g → (∀ j, j < 0 → T'.1 42 j = T.1 42 j) → (∀ j, j < 0 → T'.1 (45 + j) = T.1 (45 + j)) → RB T' days (fo (fun k b => weekD (M.1 7) pl dc dr dp (M.1 3 5).toNat (M.1 6) (M.1 4) (M.1 3 4).toNat r (0 + 1) (nt (M.1 4) (M.1 3 4).toNat (sl1 (M.1 6) ((k : Int) - 1) g)) (sets + dayV (M.1 7) pl dc dr dp (M.1 3 5).toNat 0 (sl1 (M.1 6) ((k : Int) - 1) g)) (pre ++ [(k : Int) - 1]) b) i b) → z6 = (i : Int) - 1 → G 76 [.ref 41, .ref 3, .int (zI dc), .int (zI z3), .int (zI z4), .int (zI sets), .int (zI z6), v7] [] T' := by
        refine lpN _ ?_ ?_
        · intro T' z6 v7 hS2 ht2 hmo hrow hmor hB2 hz6
          refine r_iload C rfl dX0_tryDay_76 ?_
          refine r_aload_n C rfl dX0_tryDay_78 ?_
          refine r_cVz C dX0_tryDay_79 vw_X0_61 (c_slightNumbers T') (by omega) rfl ly_3 rfl rfl (Nat.le_of_ble_eq_true rfl) ?_
          rw [hS2.1 3 (by omega)]
          refine r_icmp_ge C (tgt := 184) dX0_tryDay_82 rfl (by first | assumption | exact rgm (by omega) (by omega)) (by first | assumption | exact rgm (by omega) (by omega)) (fun h82 => ?_) (fun h82 => absurd h82 (by omega))
          exact r_vret E dX0_tryDay_184 ⟨rfl, hS2, ht2, hrow, hmor, hB2⟩
        · intro i hi ih T' z6 v7 hS2 ht2 hmo hrow hmor hB2 hz6
          have hbi := hfb i
          refine r_iload C rfl dX0_tryDay_76 ?_
          refine r_aload_n C rfl dX0_tryDay_78 ?_
          refine r_cVz C dX0_tryDay_79 vw_X0_61 (c_slightNumbers T') (by omega) rfl ly_3 rfl rfl (Nat.le_of_ble_eq_true rfl) ?_
          rw [hS2.1 3 (by omega)]
          refine r_icmp_ge C (tgt := 184) dX0_tryDay_82 rfl (by first | assumption | exact rgm (by omega) (by omega)) (by first | assumption | exact rgm (by omega) (by omega)) (fun h82 => absurd h82 (by omega)) (fun h82 => ?_)
          refine r_aload_n C rfl dX0_tryDay_85 ?_
          refine r_getr C dX0_tryDay_86 fl_X0_27 ly_41 rfl ?_
          refine r_iload C rfl dX0_tryDay_89 ?_
          refine r_aald C dX0_tryDay_91 ly_44 (by decide) (k := 0) (by omega) (by decide) rfl ?_
          refine r_iconst C dX0_tryDay_92 ?_
          refine r_aload_n C rfl dX0_tryDay_93 ?_
          refine r_getr C dX0_tryDay_94 fl_X0_12 ly_41 rfl ?_
          refine r_getr C dX0_tryDay_97 fl_X0_83 ly_30 rfl ?_
          refine r_iconst C dX0_tryDay_100 ?_
          refine r_iconst C dX0_tryDay_101 ?_
          refine r_copy C dX0_tryDay_102 ml_X0_77 sc_na sc_st sc_in (by omega) (Nat.le_of_ble_eq_true rfl) ly_45 ly_31 rfl rfl rfl (by decide) (by decide) ?_
          refine r_ext C (eqM_copy (n := 4) rfl) ?_
          refine r_aload_n C rfl dX0_tryDay_105 ?_
          refine r_getr C dX0_tryDay_106 fl_X0_12 ly_41 rfl ?_
          refine r_iload C rfl dX0_tryDay_109 ?_
          refine r_if_ne C (tgt := 118) dX0_tryDay_111 rfl (by first | assumption | exact rgm (by omega) (by omega)) (fun h111 => absurd h111 (by omega)) (fun h111 => ?_)
          refine r_iload_n C rfl dX0_tryDay_114 ?_
          refine r_goto C (tgt := 119) dX0_tryDay_115 rfl ?_
          refine r_put C dX0_tryDay_119 fl_X0_86 rfl (Or.inl rfl) ly_30 rfl ?_
          have hSb : xS M (mU (mR T' 31 (T'.1 45)) 30 7 dc) := xS_tr (xS_tr hS2 (xS_R (by omega))) (xS_U (by omega))
          have hgb : (mU (mR T' 31 (T'.1 45)) 30 7 dc).1 31 = g := by rw [mU_ne (by decide), mR_eq]; exact hmo
          have hg1 := sl1_b (gr := M.1 6) (num := (i : Int) - 1) (g := g) (n := 4) hf.1 (oV_gr hv (by omega))
          have hg2 := nt_b (kd := M.1 4) (m := (M.1 3 4).toNat) (g := (sl1 (M.1 6) ((i : Int) - 1) g)) (n := 4) hg1
          refine r_aload_n C rfl dX0_tryDay_122 ?_
          refine r_aload_n C rfl dX0_tryDay_123 ?_
          refine r_getr C dX0_tryDay_124 fl_X0_12 ly_41 rfl ?_
          refine r_iload C rfl dX0_tryDay_127 ?_
          refine r_cVv C dX0_tryDay_129 vw_X0_57 (c_offendT (M := M) (g := g) hSb hgb (by omega) (by omega) hv hf.1) (by omega) rfl ly_3 rfl rfl (Nat.le_of_ble_eq_true rfl) ?_
          refine r_aload_n C rfl dX0_tryDay_132 ?_
          refine r_getr C dX0_tryDay_133 fl_X0_18 ly_41 rfl ?_
          refine r_iload C rfl dX0_tryDay_136 ?_
          refine r_iload C rfl dX0_tryDay_138 ?_
          rw [hz6]
          refine r_iast C dX0_tryDay_140 ly_42 (k := 0) (by omega) (by decide) ?_
          have hSd : xS M (mU (mR (mU (mR T' 31 (T'.1 45)) 30 7 dc) 31 (sl1 (M.1 6) ((i : Int) - 1) g)) 42 0 ((i : Int) - 1)) := xS_tr (xS_tr hSb (xS_R (by omega))) (xS_U (by omega))
          have hgd : (mU (mR (mU (mR T' 31 (T'.1 45)) 30 7 dc) 31 (sl1 (M.1 6) ((i : Int) - 1) g)) 42 0 ((i : Int) - 1)).1 31 = (sl1 (M.1 6) ((i : Int) - 1) g) := by rw [mU_ne (by decide), mR_eq]
          have htd : tr (mU (mR (mU (mR T' 31 (T'.1 45)) 30 7 dc) 31 (sl1 (M.1 6) ((i : Int) - 1) g)) 42 0 ((i : Int) - 1)) (sl1 (M.1 6) ((i : Int) - 1) g) pl dc dr dp := by
            refine ⟨hgd, ?_, ?_, ?_, ?_⟩
            · rw [mU_ne (by decide), mR_ne (by decide), mU_ne (by decide), mR_ne (by decide)]; exact ht2.1
            · rw [mU_ne (by decide), mR_ne (by decide)]; simp [mU]
            · rw [mU_ne (by decide), mR_ne (by decide), mU_ne (by decide), mR_ne (by decide)]; exact ht2.2.1
            · rw [mU_ne (by decide), mR_ne (by decide), mU_ne (by decide), mR_ne (by decide)]; exact ht2.2.2
          have hfd : oF g pl dc dr dp := ⟨hf.1, hf.2.1, hf.2.2.1, hf.2.2.2⟩
          have hWb := WDc_b (M.1 7) (FA (sl1 (M.1 6) ((i : Int) - 1) g) pl dc dr dp) (M.1 3 5).toNat (by omega)
          refine r_aload_n C rfl dX0_tryDay_141 ?_
          refine r_aload_n C rfl dX0_tryDay_142 ?_
          refine r_getr C dX0_tryDay_143 fl_X0_12 ly_41 rfl ?_
          refine r_cVz C dX0_tryDay_146 vw_X0_47 (c_wouldT (M := M) hSd htd hv (oF_g hfd hg1)) (by omega) rfl ly_3 rfl rfl (Nat.le_of_ble_eq_true rfl) ?_
          refine r_cSz C dX0_tryDay_149 sw_X0_51 (c_bitCount _ hWb.1 hWb.2) (by omega) rfl rfl (Nat.le_of_ble_eq_true rfl) ?_
          have hVe : ob (WDc (M.1 7) (FA (sl1 (M.1 6) ((i : Int) - 1) g) pl dc dr dp) (M.1 3 5).toNat) = (dayV (M.1 7) pl dc dr dp (M.1 3 5).toNat 0 (sl1 (M.1 6) ((i : Int) - 1) g)) := rfl
          rw [hVe]
          have hVb := hV 0 (sl1 (M.1 6) ((i : Int) - 1) g)
          refine r_istore C dX0_tryDay_152 7 rfl (by decide) rfl ?_
          dsimp only [List.set, Nat.reduceAdd]
          refine r_aload_n C rfl dX0_tryDay_154 ?_
          refine r_aload_n C rfl dX0_tryDay_155 ?_
          refine r_getr C dX0_tryDay_156 fl_X0_12 ly_41 rfl ?_
          refine r_cVv C dX0_tryDay_159 vw_X0_96 (c_nightT (M := M) (g := (sl1 (M.1 6) ((i : Int) - 1) g)) hSd hgd hv hg1) (by omega) rfl ly_3 rfl rfl (Nat.le_of_ble_eq_true rfl) ?_
          have hSe : xS M (mR (mU (mR (mU (mR T' 31 (T'.1 45)) 30 7 dc) 31 (sl1 (M.1 6) ((i : Int) - 1) g)) 42 0 ((i : Int) - 1)) 31 (nt (M.1 4) (M.1 3 4).toNat (sl1 (M.1 6) ((i : Int) - 1) g))) := xS_tr hSd (xS_R (by omega))
          have hte : t3 (mR (mU (mR (mU (mR T' 31 (T'.1 45)) 30 7 dc) 31 (sl1 (M.1 6) ((i : Int) - 1) g)) 42 0 ((i : Int) - 1)) 31 (nt (M.1 4) (M.1 3 4).toNat (sl1 (M.1 6) ((i : Int) - 1) g))) pl dr dp := t3_R (t3_U (t3_R (t3_U (t3_R ht2 (by omega)) (by omega)) (by omega)) (by omega)) (by omega)
          have hBe : RB (mR (mU (mR (mU (mR T' 31 (T'.1 45)) 30 7 dc) 31 (sl1 (M.1 6) ((i : Int) - 1) g)) 42 0 ((i : Int) - 1)) 31 (nt (M.1 4) (M.1 3 4).toNat (sl1 (M.1 6) ((i : Int) - 1) g))) days (fo (fun k b => weekD (M.1 7) pl dc dr dp (M.1 3 5).toNat (M.1 6) (M.1 4) (M.1 3 4).toNat r (0 + 1) (nt (M.1 4) (M.1 3 4).toNat (sl1 (M.1 6) ((k : Int) - 1) g)) (sets + dayV (M.1 7) pl dc dr dp (M.1 3 5).toNat 0 (sl1 (M.1 6) ((k : Int) - 1) g)) (pre ++ [(k : Int) - 1]) b) i b) := RB_R (RB_U (RB_R (RB_U (RB_R hB2 (by omega)) (by omega)) (by omega)) (by omega)) (by omega)
          have h42e : ∀ j, (mR (mU (mR (mU (mR T' 31 (T'.1 45)) 30 7 dc) 31 (sl1 (M.1 6) ((i : Int) - 1) g)) 42 0 ((i : Int) - 1)) 31 (nt (M.1 4) (M.1 3 4).toNat (sl1 (M.1 6) ((i : Int) - 1) g))).1 42 j = if j = 0 then (i : Int) - 1 else T'.1 42 j := by
            intro j
            rw [mR_ne (by decide), mU_R, mR_eq, mR_ne (by decide), mU_ne (by decide), mR_ne (by decide)]
          have hme : ∀ j, (mR (mU (mR (mU (mR T' 31 (T'.1 45)) 30 7 dc) 31 (sl1 (M.1 6) ((i : Int) - 1) g)) 42 0 ((i : Int) - 1)) 31 (nt (M.1 4) (M.1 3 4).toNat (sl1 (M.1 6) ((i : Int) - 1) g))).1 (45 + j) = T'.1 (45 + j) := by
            intro j
            rw [mR_ne (by omega), mU_ne (by omega), mR_ne (by omega), mU_ne (by omega), mR_ne (by omega)]
          have hprx : ∀ t, t < 0 + 1 → (mR (mU (mR (mU (mR T' 31 (T'.1 45)) 30 7 dc) 31 (sl1 (M.1 6) ((i : Int) - 1) g)) 42 0 ((i : Int) - 1)) 31 (nt (M.1 4) (M.1 3 4).toNat (sl1 (M.1 6) ((i : Int) - 1) g))).1 42 t = (pre ++ [(i : Int) - 1]).getD t 0 := by
            intro t ht0
            rw [h42e]
            by_cases hq : t = 0
            · rw [if_pos hq, List.getD_eq_getElem?_getD, List.getElem?_append_right (by omega), hq, hpl]
              simp
            · rw [if_neg hq, List.getD_eq_getElem?_getD, List.getElem?_append_left (by omega), ← List.getD_eq_getElem?_getD, hrow t (by omega)]
              exact hpr t (by omega)
          refine r_aload_n C rfl dX0_tryDay_162 ?_
          refine r_aload_n C rfl dX0_tryDay_163 ?_
          refine r_iload_n C rfl dX0_tryDay_164 ?_
          refine r_iload_n C rfl dX0_tryDay_165 ?_
          refine r_iload C rfl dX0_tryDay_166 ?_
          refine r_iconst C dX0_tryDay_168 ?_
          refine r_iadd C dX0_tryDay_169 ?_
          refine r_iload C rfl dX0_tryDay_170 ?_
          refine r_iload C rfl dX0_tryDay_172 ?_
          refine r_iadd C dX0_tryDay_174 ?_
          refine r_callV C dX0_tryDay_175 vw_X0_89 (ihr (mR (mU (mR (mU (mR T' 31 (T'.1 45)) 30 7 dc) 31 (sl1 (M.1 6) ((i : Int) - 1) g)) 42 0 ((i : Int) - 1)) 31 (nt (M.1 4) (M.1 3 4).toNat (sl1 (M.1 6) ((i : Int) - 1) g))) M (nt (M.1 4) (M.1 3 4).toNat (sl1 (M.1 6) ((i : Int) - 1) g)) pl dc dr dp (0 + 1) days (sets + (dayV (M.1 7) pl dc dr dp (M.1 3 5).toNat 0 (sl1 (M.1 6) ((i : Int) - 1) g))) (pre ++ [(i : Int) - 1]) (fo (fun k b => weekD (M.1 7) pl dc dr dp (M.1 3 5).toNat (M.1 6) (M.1 4) (M.1 3 4).toNat r (0 + 1) (nt (M.1 4) (M.1 3 4).toNat (sl1 (M.1 6) ((k : Int) - 1) g)) (sets + dayV (M.1 7) pl dc dr dp (M.1 3 5).toNat 0 (sl1 (M.1 6) ((k : Int) - 1) g)) (pre ++ [(k : Int) - 1]) b) i b) z3 (z4 + 1) hSe mR_eq hte (oF_g hf hg2) hv hpos h3 (by omega) (by omega) hd3 (by omega) (by rw [List.length_append, hpl]; rfl) hprx hbi hBe) (by omega) rfl ly_41 rfl rfl (Nat.le_of_ble_eq_true rfl) ?_
          intro r U hpost
          obtain ⟨rfl, hSu, htu, hru, hmu, hBu⟩ := hpost
          refine r_iinc C dX0_tryDay_178 rfl (by decide) rfl ?_
          dsimp only [List.set, Nat.reduceAdd]
          refine r_goto C (tgt := 76) dX0_tryDay_181 rfl ?_
          refine ih U _ _ hSu htu ?_ ?_ ?_ ?_ (by omega)
          · rw [show (45 : Nat) = 45 + 0 from rfl, hmu 0 (by omega), hme]; exact hmo
          · intro j hj
            rw [hru j (by omega), h42e, if_neg (by omega)]; exact hrow j hj
          · intro j hj
            rw [hmu j (by omega), hme]; exact hmor j hj
          · exact hBu
      refine r_iload C rfl dX0_tryDay_0 ?_
      refine r_iload_n C rfl dX0_tryDay_2 ?_
      refine r_iload C rfl dX0_tryDay_3 ?_
      refine r_isub C dX0_tryDay_5 ?_
      refine r_aload_n C rfl dX0_tryDay_6 ?_
      refine r_geti C dX0_tryDay_7 fl_X0_93 ly_3 rfl ?_
      refine r_imul C dX0_tryDay_10 ?_
      refine r_iadd C dX0_tryDay_11 ?_
      refine r_aload_n C rfl dX0_tryDay_12 ?_
      refine r_geti C dX0_tryDay_13 fl_X0_30 ly_41 rfl ?_
      refine r_icmp_gt C (tgt := 20) dX0_tryDay_16 rfl (rgm (by rw [e3, hrm]; omega) (by rw [e3, hrm]; omega)) (rgm (by omega) (by omega)) (fun h16 => ?_) (fun h16 => absurd h16 (by rw [e3]; omega))
      refine r_iload C rfl dX0_tryDay_20 ?_
      refine r_iload_n C rfl dX0_tryDay_22 ?_
      refine r_icmp_ge C (tgt := 32) dX0_tryDay_23 rfl (by first | assumption | exact rgm (by omega) (by omega)) (by first | assumption | exact rgm (by omega) (by omega)) (fun h23 => absurd h23 (by omega)) (fun h23 => ?_)
      refine r_iload C rfl dX0_tryDay_26 ?_
      refine r_iconst C dX0_tryDay_28 ?_
      refine r_icmp_lt C (tgt := 53) dX0_tryDay_29 rfl (by first | assumption | exact rgm (by omega) (by omega)) (by first | assumption | exact rgm (by omega) (by omega)) (fun h29 => ?_) (fun h29 => absurd h29 (by omega))
      refine r_aload_n C rfl dX0_tryDay_53 ?_
      refine r_getr C dX0_tryDay_54 fl_X0_12 ly_41 rfl ?_
      refine r_getr C dX0_tryDay_57 fl_X0_83 ly_30 rfl ?_
      refine r_iconst C dX0_tryDay_60 ?_
      refine r_aload_n C rfl dX0_tryDay_61 ?_
      refine r_getr C dX0_tryDay_62 fl_X0_27 ly_41 rfl ?_
      refine r_iload C rfl dX0_tryDay_65 ?_
      refine r_aald C dX0_tryDay_67 ly_44 (by decide) (k := 0) (by omega) (by decide) rfl ?_
      refine r_iconst C dX0_tryDay_68 ?_
      refine r_iconst C dX0_tryDay_69 ?_
      refine r_copy C dX0_tryDay_70 ml_X0_77 sc_na sc_st sc_in (by omega) (Nat.le_of_ble_eq_true rfl) ly_31 ly_45 rfl rfl rfl (by decide) (by decide) ?_
      refine r_ext C (eqM_copy (n := 4) rfl) ?_
      refine r_iconst C dX0_tryDay_73 ?_
      refine r_istore C dX0_tryDay_74 6 rfl (by decide) rfl ?_
      dsimp only [List.set, Nat.reduceAdd]
      refine lp 0 (Nat.zero_le _) (mR T 45 (T.1 31)) _ _ (xS_tr hS (xS_R (by omega))) (t3_R ht (by omega)) (by rw [mR_eq]; exact hg) ?_ ?_ (RB_R hB (by omega)) rfl
      · intro j hj
        rw [mR_ne (by decide)]
      · intro j hj
        rw [mR_ne (by omega)]
    · have hfb : ∀ i, -1 ≤ (fo (fun k b => weekD (M.1 7) pl dc dr dp (M.1 3 5).toNat (M.1 6) (M.1 4) (M.1 3 4).toNat r (1 + 1) (nt (M.1 4) (M.1 3 4).toNat (sl1 (M.1 6) ((k : Int) - 1) g)) (sets + dayV (M.1 7) pl dc dr dp (M.1 3 5).toNat 1 (sl1 (M.1 6) ((k : Int) - 1) g)) (pre ++ [(k : Int) - 1]) b) i b).1 ∧ (fo (fun k b => weekD (M.1 7) pl dc dr dp (M.1 3 5).toNat (M.1 6) (M.1 4) (M.1 3 4).toNat r (1 + 1) (nt (M.1 4) (M.1 3 4).toNat (sl1 (M.1 6) ((k : Int) - 1) g)) (sets + dayV (M.1 7) pl dc dr dp (M.1 3 5).toNat 1 (sl1 (M.1 6) ((k : Int) - 1) g)) (pre ++ [(k : Int) - 1]) b) i b).1 ≤ 18 := by
        intro i
        induction i with
        | zero => exact hbb
        | succ i ih2 =>
          have h2 := hV 1 (sl1 (M.1 6) ((i : Int) - 1) g)
          exact fd_b (fun day g => by have := hV day g; omega) r (1 + 1) _ _ _ _ (by omega) (by omega) ih2
      have hfin : weekD (M.1 7) pl dc dr dp (M.1 3 5).toNat (M.1 6) (M.1 4) (M.1 3 4).toNat (r + 1) 1 g sets pre b = fo (fun k b => weekD (M.1 7) pl dc dr dp (M.1 3 5).toNat (M.1 6) (M.1 4) (M.1 3 4).toNat r (1 + 1) (nt (M.1 4) (M.1 3 4).toNat (sl1 (M.1 6) ((k : Int) - 1) g)) (sets + dayV (M.1 7) pl dc dr dp (M.1 3 5).toNat 1 (sl1 (M.1 6) ((k : Int) - 1) g)) (pre ++ [(k : Int) - 1]) b) (3 * (M.1 3 4).toNat + 1) b := rfl
      rw [hfin]
      refine Cn.of rfl (Nat.le_of_ble_eq_true rfl) (fun G C E => ?_)
      show G 0 [.ref 41, .ref 3, .int (zI dc), .int (zI z3), .int (zI z4), .int (zI sets), .null, .null] [] T
      have lp : ∀ i : Nat, i ≤ 3 * (M.1 3 4).toNat + 1 → ∀ (T' : Mm_) (z6 : Int) (v7 : Value), xS M T' → t3 T' pl dr dp → T'.1 46 = g → (∀ j, j < 1 → T'.1 42 j = T.1 42 j) → (∀ j, j < 1 → T'.1 (45 + j) = T.1 (45 + j)) → RB T' days (fo (fun k b => weekD (M.1 7) pl dc dr dp (M.1 3 5).toNat (M.1 6) (M.1 4) (M.1 3 4).toNat r (1 + 1) (nt (M.1 4) (M.1 3 4).toNat (sl1 (M.1 6) ((k : Int) - 1) g)) (sets + dayV (M.1 7) pl dc dr dp (M.1 3 5).toNat 1 (sl1 (M.1 6) ((k : Int) - 1) g)) (pre ++ [(k : Int) - 1]) b) i b) → z6 = (i : Int) - 1 → G 76 [.ref 41, .ref 3, .int (zI dc), .int (zI z3), .int (zI z4), .int (zI sets), .int (zI z6), v7] [] T' := by
        refine lpN _ ?_ ?_
        · intro T' z6 v7 hS2 ht2 hmo hrow hmor hB2 hz6
          refine r_iload C rfl dX0_tryDay_76 ?_
          refine r_aload_n C rfl dX0_tryDay_78 ?_
          refine r_cVz C dX0_tryDay_79 vw_X0_61 (c_slightNumbers T') (by omega) rfl ly_3 rfl rfl (Nat.le_of_ble_eq_true rfl) ?_
          rw [hS2.1 3 (by omega)]
          refine r_icmp_ge C (tgt := 184) dX0_tryDay_82 rfl (by first | assumption | exact rgm (by omega) (by omega)) (by first | assumption | exact rgm (by omega) (by omega)) (fun h82 => ?_) (fun h82 => absurd h82 (by omega))
          exact r_vret E dX0_tryDay_184 ⟨rfl, hS2, ht2, hrow, hmor, hB2⟩
        · intro i hi ih T' z6 v7 hS2 ht2 hmo hrow hmor hB2 hz6
          have hbi := hfb i
          refine r_iload C rfl dX0_tryDay_76 ?_
          refine r_aload_n C rfl dX0_tryDay_78 ?_
          refine r_cVz C dX0_tryDay_79 vw_X0_61 (c_slightNumbers T') (by omega) rfl ly_3 rfl rfl (Nat.le_of_ble_eq_true rfl) ?_
          rw [hS2.1 3 (by omega)]
          refine r_icmp_ge C (tgt := 184) dX0_tryDay_82 rfl (by first | assumption | exact rgm (by omega) (by omega)) (by first | assumption | exact rgm (by omega) (by omega)) (fun h82 => absurd h82 (by omega)) (fun h82 => ?_)
          refine r_aload_n C rfl dX0_tryDay_85 ?_
          refine r_getr C dX0_tryDay_86 fl_X0_27 ly_41 rfl ?_
          refine r_iload C rfl dX0_tryDay_89 ?_
          refine r_aald C dX0_tryDay_91 ly_44 (by decide) (k := 1) (by omega) (by decide) rfl ?_
          refine r_iconst C dX0_tryDay_92 ?_
          refine r_aload_n C rfl dX0_tryDay_93 ?_
          refine r_getr C dX0_tryDay_94 fl_X0_12 ly_41 rfl ?_
          refine r_getr C dX0_tryDay_97 fl_X0_83 ly_30 rfl ?_
          refine r_iconst C dX0_tryDay_100 ?_
          refine r_iconst C dX0_tryDay_101 ?_
          refine r_copy C dX0_tryDay_102 ml_X0_77 sc_na sc_st sc_in (by omega) (Nat.le_of_ble_eq_true rfl) ly_46 ly_31 rfl rfl rfl (by decide) (by decide) ?_
          refine r_ext C (eqM_copy (n := 4) rfl) ?_
          refine r_aload_n C rfl dX0_tryDay_105 ?_
          refine r_getr C dX0_tryDay_106 fl_X0_12 ly_41 rfl ?_
          refine r_iload C rfl dX0_tryDay_109 ?_
          refine r_if_ne C (tgt := 118) dX0_tryDay_111 rfl (by first | assumption | exact rgm (by omega) (by omega)) (fun h111 => ?_) (fun h111 => absurd h111 (by omega))
          refine r_iconst C dX0_tryDay_118 ?_
          refine r_put C dX0_tryDay_119 fl_X0_86 rfl (Or.inl rfl) ly_30 rfl ?_
          have hSb : xS M (mU (mR T' 31 (T'.1 46)) 30 7 0) := xS_tr (xS_tr hS2 (xS_R (by omega))) (xS_U (by omega))
          have hgb : (mU (mR T' 31 (T'.1 46)) 30 7 0).1 31 = g := by rw [mU_ne (by decide), mR_eq]; exact hmo
          have hg1 := sl1_b (gr := M.1 6) (num := (i : Int) - 1) (g := g) (n := 4) hf.1 (oV_gr hv (by omega))
          have hg2 := nt_b (kd := M.1 4) (m := (M.1 3 4).toNat) (g := (sl1 (M.1 6) ((i : Int) - 1) g)) (n := 4) hg1
          refine r_aload_n C rfl dX0_tryDay_122 ?_
          refine r_aload_n C rfl dX0_tryDay_123 ?_
          refine r_getr C dX0_tryDay_124 fl_X0_12 ly_41 rfl ?_
          refine r_iload C rfl dX0_tryDay_127 ?_
          refine r_cVv C dX0_tryDay_129 vw_X0_57 (c_offendT (M := M) (g := g) hSb hgb (by omega) (by omega) hv hf.1) (by omega) rfl ly_3 rfl rfl (Nat.le_of_ble_eq_true rfl) ?_
          refine r_aload_n C rfl dX0_tryDay_132 ?_
          refine r_getr C dX0_tryDay_133 fl_X0_18 ly_41 rfl ?_
          refine r_iload C rfl dX0_tryDay_136 ?_
          refine r_iload C rfl dX0_tryDay_138 ?_
          rw [hz6]
          refine r_iast C dX0_tryDay_140 ly_42 (k := 1) (by omega) (by decide) ?_
          have hSd : xS M (mU (mR (mU (mR T' 31 (T'.1 46)) 30 7 0) 31 (sl1 (M.1 6) ((i : Int) - 1) g)) 42 1 ((i : Int) - 1)) := xS_tr (xS_tr hSb (xS_R (by omega))) (xS_U (by omega))
          have hgd : (mU (mR (mU (mR T' 31 (T'.1 46)) 30 7 0) 31 (sl1 (M.1 6) ((i : Int) - 1) g)) 42 1 ((i : Int) - 1)).1 31 = (sl1 (M.1 6) ((i : Int) - 1) g) := by rw [mU_ne (by decide), mR_eq]
          have htd : tr (mU (mR (mU (mR T' 31 (T'.1 46)) 30 7 0) 31 (sl1 (M.1 6) ((i : Int) - 1) g)) 42 1 ((i : Int) - 1)) (sl1 (M.1 6) ((i : Int) - 1) g) pl 0 dr dp := by
            refine ⟨hgd, ?_, ?_, ?_, ?_⟩
            · rw [mU_ne (by decide), mR_ne (by decide), mU_ne (by decide), mR_ne (by decide)]; exact ht2.1
            · rw [mU_ne (by decide), mR_ne (by decide)]; simp [mU]
            · rw [mU_ne (by decide), mR_ne (by decide), mU_ne (by decide), mR_ne (by decide)]; exact ht2.2.1
            · rw [mU_ne (by decide), mR_ne (by decide), mU_ne (by decide), mR_ne (by decide)]; exact ht2.2.2
          have hfd : oF g pl 0 dr dp := ⟨hf.1, hf.2.1, (by omega), hf.2.2.2⟩
          have hWb := WDc_b (M.1 7) (FA (sl1 (M.1 6) ((i : Int) - 1) g) pl 0 dr dp) (M.1 3 5).toNat (by omega)
          refine r_aload_n C rfl dX0_tryDay_141 ?_
          refine r_aload_n C rfl dX0_tryDay_142 ?_
          refine r_getr C dX0_tryDay_143 fl_X0_12 ly_41 rfl ?_
          refine r_cVz C dX0_tryDay_146 vw_X0_47 (c_wouldT (M := M) hSd htd hv (oF_g hfd hg1)) (by omega) rfl ly_3 rfl rfl (Nat.le_of_ble_eq_true rfl) ?_
          refine r_cSz C dX0_tryDay_149 sw_X0_51 (c_bitCount _ hWb.1 hWb.2) (by omega) rfl rfl (Nat.le_of_ble_eq_true rfl) ?_
          have hVe : ob (WDc (M.1 7) (FA (sl1 (M.1 6) ((i : Int) - 1) g) pl 0 dr dp) (M.1 3 5).toNat) = (dayV (M.1 7) pl dc dr dp (M.1 3 5).toNat 1 (sl1 (M.1 6) ((i : Int) - 1) g)) := rfl
          rw [hVe]
          have hVb := hV 1 (sl1 (M.1 6) ((i : Int) - 1) g)
          refine r_istore C dX0_tryDay_152 7 rfl (by decide) rfl ?_
          dsimp only [List.set, Nat.reduceAdd]
          refine r_aload_n C rfl dX0_tryDay_154 ?_
          refine r_aload_n C rfl dX0_tryDay_155 ?_
          refine r_getr C dX0_tryDay_156 fl_X0_12 ly_41 rfl ?_
          refine r_cVv C dX0_tryDay_159 vw_X0_96 (c_nightT (M := M) (g := (sl1 (M.1 6) ((i : Int) - 1) g)) hSd hgd hv hg1) (by omega) rfl ly_3 rfl rfl (Nat.le_of_ble_eq_true rfl) ?_
          have hSe : xS M (mR (mU (mR (mU (mR T' 31 (T'.1 46)) 30 7 0) 31 (sl1 (M.1 6) ((i : Int) - 1) g)) 42 1 ((i : Int) - 1)) 31 (nt (M.1 4) (M.1 3 4).toNat (sl1 (M.1 6) ((i : Int) - 1) g))) := xS_tr hSd (xS_R (by omega))
          have hte : t3 (mR (mU (mR (mU (mR T' 31 (T'.1 46)) 30 7 0) 31 (sl1 (M.1 6) ((i : Int) - 1) g)) 42 1 ((i : Int) - 1)) 31 (nt (M.1 4) (M.1 3 4).toNat (sl1 (M.1 6) ((i : Int) - 1) g))) pl dr dp := t3_R (t3_U (t3_R (t3_U (t3_R ht2 (by omega)) (by omega)) (by omega)) (by omega)) (by omega)
          have hBe : RB (mR (mU (mR (mU (mR T' 31 (T'.1 46)) 30 7 0) 31 (sl1 (M.1 6) ((i : Int) - 1) g)) 42 1 ((i : Int) - 1)) 31 (nt (M.1 4) (M.1 3 4).toNat (sl1 (M.1 6) ((i : Int) - 1) g))) days (fo (fun k b => weekD (M.1 7) pl dc dr dp (M.1 3 5).toNat (M.1 6) (M.1 4) (M.1 3 4).toNat r (1 + 1) (nt (M.1 4) (M.1 3 4).toNat (sl1 (M.1 6) ((k : Int) - 1) g)) (sets + dayV (M.1 7) pl dc dr dp (M.1 3 5).toNat 1 (sl1 (M.1 6) ((k : Int) - 1) g)) (pre ++ [(k : Int) - 1]) b) i b) := RB_R (RB_U (RB_R (RB_U (RB_R hB2 (by omega)) (by omega)) (by omega)) (by omega)) (by omega)
          have h42e : ∀ j, (mR (mU (mR (mU (mR T' 31 (T'.1 46)) 30 7 0) 31 (sl1 (M.1 6) ((i : Int) - 1) g)) 42 1 ((i : Int) - 1)) 31 (nt (M.1 4) (M.1 3 4).toNat (sl1 (M.1 6) ((i : Int) - 1) g))).1 42 j = if j = 1 then (i : Int) - 1 else T'.1 42 j := by
            intro j
            rw [mR_ne (by decide), mU_R, mR_eq, mR_ne (by decide), mU_ne (by decide), mR_ne (by decide)]
          have hme : ∀ j, (mR (mU (mR (mU (mR T' 31 (T'.1 46)) 30 7 0) 31 (sl1 (M.1 6) ((i : Int) - 1) g)) 42 1 ((i : Int) - 1)) 31 (nt (M.1 4) (M.1 3 4).toNat (sl1 (M.1 6) ((i : Int) - 1) g))).1 (45 + j) = T'.1 (45 + j) := by
            intro j
            rw [mR_ne (by omega), mU_ne (by omega), mR_ne (by omega), mU_ne (by omega), mR_ne (by omega)]
          have hprx : ∀ t, t < 1 + 1 → (mR (mU (mR (mU (mR T' 31 (T'.1 46)) 30 7 0) 31 (sl1 (M.1 6) ((i : Int) - 1) g)) 42 1 ((i : Int) - 1)) 31 (nt (M.1 4) (M.1 3 4).toNat (sl1 (M.1 6) ((i : Int) - 1) g))).1 42 t = (pre ++ [(i : Int) - 1]).getD t 0 := by
            intro t ht0
            rw [h42e]
            by_cases hq : t = 1
            · rw [if_pos hq, List.getD_eq_getElem?_getD, List.getElem?_append_right (by omega), hq, hpl]
              simp
            · rw [if_neg hq, List.getD_eq_getElem?_getD, List.getElem?_append_left (by omega), ← List.getD_eq_getElem?_getD, hrow t (by omega)]
              exact hpr t (by omega)
          refine r_aload_n C rfl dX0_tryDay_162 ?_
          refine r_aload_n C rfl dX0_tryDay_163 ?_
          refine r_iload_n C rfl dX0_tryDay_164 ?_
          refine r_iload_n C rfl dX0_tryDay_165 ?_
          refine r_iload C rfl dX0_tryDay_166 ?_
          refine r_iconst C dX0_tryDay_168 ?_
          refine r_iadd C dX0_tryDay_169 ?_
          refine r_iload C rfl dX0_tryDay_170 ?_
          refine r_iload C rfl dX0_tryDay_172 ?_
          refine r_iadd C dX0_tryDay_174 ?_
          refine r_callV C dX0_tryDay_175 vw_X0_89 (ihr (mR (mU (mR (mU (mR T' 31 (T'.1 46)) 30 7 0) 31 (sl1 (M.1 6) ((i : Int) - 1) g)) 42 1 ((i : Int) - 1)) 31 (nt (M.1 4) (M.1 3 4).toNat (sl1 (M.1 6) ((i : Int) - 1) g))) M (nt (M.1 4) (M.1 3 4).toNat (sl1 (M.1 6) ((i : Int) - 1) g)) pl dc dr dp (1 + 1) days (sets + (dayV (M.1 7) pl dc dr dp (M.1 3 5).toNat 1 (sl1 (M.1 6) ((i : Int) - 1) g))) (pre ++ [(i : Int) - 1]) (fo (fun k b => weekD (M.1 7) pl dc dr dp (M.1 3 5).toNat (M.1 6) (M.1 4) (M.1 3 4).toNat r (1 + 1) (nt (M.1 4) (M.1 3 4).toNat (sl1 (M.1 6) ((k : Int) - 1) g)) (sets + dayV (M.1 7) pl dc dr dp (M.1 3 5).toNat 1 (sl1 (M.1 6) ((k : Int) - 1) g)) (pre ++ [(k : Int) - 1]) b) i b) z3 (z4 + 1) hSe mR_eq hte (oF_g hf hg2) hv hpos h3 (by omega) (by omega) hd3 (by omega) (by rw [List.length_append, hpl]; rfl) hprx hbi hBe) (by omega) rfl ly_41 rfl rfl (Nat.le_of_ble_eq_true rfl) ?_
          intro r U hpost
          obtain ⟨rfl, hSu, htu, hru, hmu, hBu⟩ := hpost
          refine r_iinc C dX0_tryDay_178 rfl (by decide) rfl ?_
          dsimp only [List.set, Nat.reduceAdd]
          refine r_goto C (tgt := 76) dX0_tryDay_181 rfl ?_
          refine ih U _ _ hSu htu ?_ ?_ ?_ ?_ (by omega)
          · rw [show (46 : Nat) = 45 + 1 from rfl, hmu 1 (by omega), hme]; exact hmo
          · intro j hj
            rw [hru j (by omega), h42e, if_neg (by omega)]; exact hrow j hj
          · intro j hj
            rw [hmu j (by omega), hme]; exact hmor j hj
          · exact hBu
      refine r_iload C rfl dX0_tryDay_0 ?_
      refine r_iload_n C rfl dX0_tryDay_2 ?_
      refine r_iload C rfl dX0_tryDay_3 ?_
      refine r_isub C dX0_tryDay_5 ?_
      refine r_aload_n C rfl dX0_tryDay_6 ?_
      refine r_geti C dX0_tryDay_7 fl_X0_93 ly_3 rfl ?_
      refine r_imul C dX0_tryDay_10 ?_
      refine r_iadd C dX0_tryDay_11 ?_
      refine r_aload_n C rfl dX0_tryDay_12 ?_
      refine r_geti C dX0_tryDay_13 fl_X0_30 ly_41 rfl ?_
      refine r_icmp_gt C (tgt := 20) dX0_tryDay_16 rfl (rgm (by rw [e3, hrm]; omega) (by rw [e3, hrm]; omega)) (rgm (by omega) (by omega)) (fun h16 => ?_) (fun h16 => absurd h16 (by rw [e3]; omega))
      refine r_iload C rfl dX0_tryDay_20 ?_
      refine r_iload_n C rfl dX0_tryDay_22 ?_
      refine r_icmp_ge C (tgt := 32) dX0_tryDay_23 rfl (by first | assumption | exact rgm (by omega) (by omega)) (by first | assumption | exact rgm (by omega) (by omega)) (fun h23 => absurd h23 (by omega)) (fun h23 => ?_)
      refine r_iload C rfl dX0_tryDay_26 ?_
      refine r_iconst C dX0_tryDay_28 ?_
      refine r_icmp_lt C (tgt := 53) dX0_tryDay_29 rfl (by first | assumption | exact rgm (by omega) (by omega)) (by first | assumption | exact rgm (by omega) (by omega)) (fun h29 => ?_) (fun h29 => absurd h29 (by omega))
      refine r_aload_n C rfl dX0_tryDay_53 ?_
      refine r_getr C dX0_tryDay_54 fl_X0_12 ly_41 rfl ?_
      refine r_getr C dX0_tryDay_57 fl_X0_83 ly_30 rfl ?_
      refine r_iconst C dX0_tryDay_60 ?_
      refine r_aload_n C rfl dX0_tryDay_61 ?_
      refine r_getr C dX0_tryDay_62 fl_X0_27 ly_41 rfl ?_
      refine r_iload C rfl dX0_tryDay_65 ?_
      refine r_aald C dX0_tryDay_67 ly_44 (by decide) (k := 1) (by omega) (by decide) rfl ?_
      refine r_iconst C dX0_tryDay_68 ?_
      refine r_iconst C dX0_tryDay_69 ?_
      refine r_copy C dX0_tryDay_70 ml_X0_77 sc_na sc_st sc_in (by omega) (Nat.le_of_ble_eq_true rfl) ly_31 ly_46 rfl rfl rfl (by decide) (by decide) ?_
      refine r_ext C (eqM_copy (n := 4) rfl) ?_
      refine r_iconst C dX0_tryDay_73 ?_
      refine r_istore C dX0_tryDay_74 6 rfl (by decide) rfl ?_
      dsimp only [List.set, Nat.reduceAdd]
      refine lp 0 (Nat.zero_le _) (mR T 46 (T.1 31)) _ _ (xS_tr hS (xS_R (by omega))) (t3_R ht (by omega)) (by rw [mR_eq]; exact hg) ?_ ?_ (RB_R hB (by omega)) rfl
      · intro j hj
        rw [mR_ne (by decide)]
      · intro j hj
        rw [mR_ne (by omega)]
    · have hfb : ∀ i, -1 ≤ (fo (fun k b => weekD (M.1 7) pl dc dr dp (M.1 3 5).toNat (M.1 6) (M.1 4) (M.1 3 4).toNat r (2 + 1) (nt (M.1 4) (M.1 3 4).toNat (sl1 (M.1 6) ((k : Int) - 1) g)) (sets + dayV (M.1 7) pl dc dr dp (M.1 3 5).toNat 2 (sl1 (M.1 6) ((k : Int) - 1) g)) (pre ++ [(k : Int) - 1]) b) i b).1 ∧ (fo (fun k b => weekD (M.1 7) pl dc dr dp (M.1 3 5).toNat (M.1 6) (M.1 4) (M.1 3 4).toNat r (2 + 1) (nt (M.1 4) (M.1 3 4).toNat (sl1 (M.1 6) ((k : Int) - 1) g)) (sets + dayV (M.1 7) pl dc dr dp (M.1 3 5).toNat 2 (sl1 (M.1 6) ((k : Int) - 1) g)) (pre ++ [(k : Int) - 1]) b) i b).1 ≤ 18 := by
        intro i
        induction i with
        | zero => exact hbb
        | succ i ih2 =>
          have h2 := hV 2 (sl1 (M.1 6) ((i : Int) - 1) g)
          exact fd_b (fun day g => by have := hV day g; omega) r (2 + 1) _ _ _ _ (by omega) (by omega) ih2
      have hfin : weekD (M.1 7) pl dc dr dp (M.1 3 5).toNat (M.1 6) (M.1 4) (M.1 3 4).toNat (r + 1) 2 g sets pre b = fo (fun k b => weekD (M.1 7) pl dc dr dp (M.1 3 5).toNat (M.1 6) (M.1 4) (M.1 3 4).toNat r (2 + 1) (nt (M.1 4) (M.1 3 4).toNat (sl1 (M.1 6) ((k : Int) - 1) g)) (sets + dayV (M.1 7) pl dc dr dp (M.1 3 5).toNat 2 (sl1 (M.1 6) ((k : Int) - 1) g)) (pre ++ [(k : Int) - 1]) b) (3 * (M.1 3 4).toNat + 1) b := rfl
      rw [hfin]
      refine Cn.of rfl (Nat.le_of_ble_eq_true rfl) (fun G C E => ?_)
      show G 0 [.ref 41, .ref 3, .int (zI dc), .int (zI z3), .int (zI z4), .int (zI sets), .null, .null] [] T
      have lp : ∀ i : Nat, i ≤ 3 * (M.1 3 4).toNat + 1 → ∀ (T' : Mm_) (z6 : Int) (v7 : Value), xS M T' → t3 T' pl dr dp → T'.1 47 = g → (∀ j, j < 2 → T'.1 42 j = T.1 42 j) → (∀ j, j < 2 → T'.1 (45 + j) = T.1 (45 + j)) → RB T' days (fo (fun k b => weekD (M.1 7) pl dc dr dp (M.1 3 5).toNat (M.1 6) (M.1 4) (M.1 3 4).toNat r (2 + 1) (nt (M.1 4) (M.1 3 4).toNat (sl1 (M.1 6) ((k : Int) - 1) g)) (sets + dayV (M.1 7) pl dc dr dp (M.1 3 5).toNat 2 (sl1 (M.1 6) ((k : Int) - 1) g)) (pre ++ [(k : Int) - 1]) b) i b) → z6 = (i : Int) - 1 → G 76 [.ref 41, .ref 3, .int (zI dc), .int (zI z3), .int (zI z4), .int (zI sets), .int (zI z6), v7] [] T' := by
        refine lpN _ ?_ ?_
        · intro T' z6 v7 hS2 ht2 hmo hrow hmor hB2 hz6
          refine r_iload C rfl dX0_tryDay_76 ?_
          refine r_aload_n C rfl dX0_tryDay_78 ?_
          refine r_cVz C dX0_tryDay_79 vw_X0_61 (c_slightNumbers T') (by omega) rfl ly_3 rfl rfl (Nat.le_of_ble_eq_true rfl) ?_
          rw [hS2.1 3 (by omega)]
          refine r_icmp_ge C (tgt := 184) dX0_tryDay_82 rfl (by first | assumption | exact rgm (by omega) (by omega)) (by first | assumption | exact rgm (by omega) (by omega)) (fun h82 => ?_) (fun h82 => absurd h82 (by omega))
          exact r_vret E dX0_tryDay_184 ⟨rfl, hS2, ht2, hrow, hmor, hB2⟩
        · intro i hi ih T' z6 v7 hS2 ht2 hmo hrow hmor hB2 hz6
          have hbi := hfb i
          refine r_iload C rfl dX0_tryDay_76 ?_
          refine r_aload_n C rfl dX0_tryDay_78 ?_
          refine r_cVz C dX0_tryDay_79 vw_X0_61 (c_slightNumbers T') (by omega) rfl ly_3 rfl rfl (Nat.le_of_ble_eq_true rfl) ?_
          rw [hS2.1 3 (by omega)]
          refine r_icmp_ge C (tgt := 184) dX0_tryDay_82 rfl (by first | assumption | exact rgm (by omega) (by omega)) (by first | assumption | exact rgm (by omega) (by omega)) (fun h82 => absurd h82 (by omega)) (fun h82 => ?_)
          refine r_aload_n C rfl dX0_tryDay_85 ?_
          refine r_getr C dX0_tryDay_86 fl_X0_27 ly_41 rfl ?_
          refine r_iload C rfl dX0_tryDay_89 ?_
          refine r_aald C dX0_tryDay_91 ly_44 (by decide) (k := 2) (by omega) (by decide) rfl ?_
          refine r_iconst C dX0_tryDay_92 ?_
          refine r_aload_n C rfl dX0_tryDay_93 ?_
          refine r_getr C dX0_tryDay_94 fl_X0_12 ly_41 rfl ?_
          refine r_getr C dX0_tryDay_97 fl_X0_83 ly_30 rfl ?_
          refine r_iconst C dX0_tryDay_100 ?_
          refine r_iconst C dX0_tryDay_101 ?_
          refine r_copy C dX0_tryDay_102 ml_X0_77 sc_na sc_st sc_in (by omega) (Nat.le_of_ble_eq_true rfl) ly_47 ly_31 rfl rfl rfl (by decide) (by decide) ?_
          refine r_ext C (eqM_copy (n := 4) rfl) ?_
          refine r_aload_n C rfl dX0_tryDay_105 ?_
          refine r_getr C dX0_tryDay_106 fl_X0_12 ly_41 rfl ?_
          refine r_iload C rfl dX0_tryDay_109 ?_
          refine r_if_ne C (tgt := 118) dX0_tryDay_111 rfl (by first | assumption | exact rgm (by omega) (by omega)) (fun h111 => ?_) (fun h111 => absurd h111 (by omega))
          refine r_iconst C dX0_tryDay_118 ?_
          refine r_put C dX0_tryDay_119 fl_X0_86 rfl (Or.inl rfl) ly_30 rfl ?_
          have hSb : xS M (mU (mR T' 31 (T'.1 47)) 30 7 0) := xS_tr (xS_tr hS2 (xS_R (by omega))) (xS_U (by omega))
          have hgb : (mU (mR T' 31 (T'.1 47)) 30 7 0).1 31 = g := by rw [mU_ne (by decide), mR_eq]; exact hmo
          have hg1 := sl1_b (gr := M.1 6) (num := (i : Int) - 1) (g := g) (n := 4) hf.1 (oV_gr hv (by omega))
          have hg2 := nt_b (kd := M.1 4) (m := (M.1 3 4).toNat) (g := (sl1 (M.1 6) ((i : Int) - 1) g)) (n := 4) hg1
          refine r_aload_n C rfl dX0_tryDay_122 ?_
          refine r_aload_n C rfl dX0_tryDay_123 ?_
          refine r_getr C dX0_tryDay_124 fl_X0_12 ly_41 rfl ?_
          refine r_iload C rfl dX0_tryDay_127 ?_
          refine r_cVv C dX0_tryDay_129 vw_X0_57 (c_offendT (M := M) (g := g) hSb hgb (by omega) (by omega) hv hf.1) (by omega) rfl ly_3 rfl rfl (Nat.le_of_ble_eq_true rfl) ?_
          refine r_aload_n C rfl dX0_tryDay_132 ?_
          refine r_getr C dX0_tryDay_133 fl_X0_18 ly_41 rfl ?_
          refine r_iload C rfl dX0_tryDay_136 ?_
          refine r_iload C rfl dX0_tryDay_138 ?_
          rw [hz6]
          refine r_iast C dX0_tryDay_140 ly_42 (k := 2) (by omega) (by decide) ?_
          have hSd : xS M (mU (mR (mU (mR T' 31 (T'.1 47)) 30 7 0) 31 (sl1 (M.1 6) ((i : Int) - 1) g)) 42 2 ((i : Int) - 1)) := xS_tr (xS_tr hSb (xS_R (by omega))) (xS_U (by omega))
          have hgd : (mU (mR (mU (mR T' 31 (T'.1 47)) 30 7 0) 31 (sl1 (M.1 6) ((i : Int) - 1) g)) 42 2 ((i : Int) - 1)).1 31 = (sl1 (M.1 6) ((i : Int) - 1) g) := by rw [mU_ne (by decide), mR_eq]
          have htd : tr (mU (mR (mU (mR T' 31 (T'.1 47)) 30 7 0) 31 (sl1 (M.1 6) ((i : Int) - 1) g)) 42 2 ((i : Int) - 1)) (sl1 (M.1 6) ((i : Int) - 1) g) pl 0 dr dp := by
            refine ⟨hgd, ?_, ?_, ?_, ?_⟩
            · rw [mU_ne (by decide), mR_ne (by decide), mU_ne (by decide), mR_ne (by decide)]; exact ht2.1
            · rw [mU_ne (by decide), mR_ne (by decide)]; simp [mU]
            · rw [mU_ne (by decide), mR_ne (by decide), mU_ne (by decide), mR_ne (by decide)]; exact ht2.2.1
            · rw [mU_ne (by decide), mR_ne (by decide), mU_ne (by decide), mR_ne (by decide)]; exact ht2.2.2
          have hfd : oF g pl 0 dr dp := ⟨hf.1, hf.2.1, (by omega), hf.2.2.2⟩
          have hWb := WDc_b (M.1 7) (FA (sl1 (M.1 6) ((i : Int) - 1) g) pl 0 dr dp) (M.1 3 5).toNat (by omega)
          refine r_aload_n C rfl dX0_tryDay_141 ?_
          refine r_aload_n C rfl dX0_tryDay_142 ?_
          refine r_getr C dX0_tryDay_143 fl_X0_12 ly_41 rfl ?_
          refine r_cVz C dX0_tryDay_146 vw_X0_47 (c_wouldT (M := M) hSd htd hv (oF_g hfd hg1)) (by omega) rfl ly_3 rfl rfl (Nat.le_of_ble_eq_true rfl) ?_
          refine r_cSz C dX0_tryDay_149 sw_X0_51 (c_bitCount _ hWb.1 hWb.2) (by omega) rfl rfl (Nat.le_of_ble_eq_true rfl) ?_
          have hVe : ob (WDc (M.1 7) (FA (sl1 (M.1 6) ((i : Int) - 1) g) pl 0 dr dp) (M.1 3 5).toNat) = (dayV (M.1 7) pl dc dr dp (M.1 3 5).toNat 2 (sl1 (M.1 6) ((i : Int) - 1) g)) := rfl
          rw [hVe]
          have hVb := hV 2 (sl1 (M.1 6) ((i : Int) - 1) g)
          refine r_istore C dX0_tryDay_152 7 rfl (by decide) rfl ?_
          dsimp only [List.set, Nat.reduceAdd]
          refine r_aload_n C rfl dX0_tryDay_154 ?_
          refine r_aload_n C rfl dX0_tryDay_155 ?_
          refine r_getr C dX0_tryDay_156 fl_X0_12 ly_41 rfl ?_
          refine r_cVv C dX0_tryDay_159 vw_X0_96 (c_nightT (M := M) (g := (sl1 (M.1 6) ((i : Int) - 1) g)) hSd hgd hv hg1) (by omega) rfl ly_3 rfl rfl (Nat.le_of_ble_eq_true rfl) ?_
          have hSe : xS M (mR (mU (mR (mU (mR T' 31 (T'.1 47)) 30 7 0) 31 (sl1 (M.1 6) ((i : Int) - 1) g)) 42 2 ((i : Int) - 1)) 31 (nt (M.1 4) (M.1 3 4).toNat (sl1 (M.1 6) ((i : Int) - 1) g))) := xS_tr hSd (xS_R (by omega))
          have hte : t3 (mR (mU (mR (mU (mR T' 31 (T'.1 47)) 30 7 0) 31 (sl1 (M.1 6) ((i : Int) - 1) g)) 42 2 ((i : Int) - 1)) 31 (nt (M.1 4) (M.1 3 4).toNat (sl1 (M.1 6) ((i : Int) - 1) g))) pl dr dp := t3_R (t3_U (t3_R (t3_U (t3_R ht2 (by omega)) (by omega)) (by omega)) (by omega)) (by omega)
          have hBe : RB (mR (mU (mR (mU (mR T' 31 (T'.1 47)) 30 7 0) 31 (sl1 (M.1 6) ((i : Int) - 1) g)) 42 2 ((i : Int) - 1)) 31 (nt (M.1 4) (M.1 3 4).toNat (sl1 (M.1 6) ((i : Int) - 1) g))) days (fo (fun k b => weekD (M.1 7) pl dc dr dp (M.1 3 5).toNat (M.1 6) (M.1 4) (M.1 3 4).toNat r (2 + 1) (nt (M.1 4) (M.1 3 4).toNat (sl1 (M.1 6) ((k : Int) - 1) g)) (sets + dayV (M.1 7) pl dc dr dp (M.1 3 5).toNat 2 (sl1 (M.1 6) ((k : Int) - 1) g)) (pre ++ [(k : Int) - 1]) b) i b) := RB_R (RB_U (RB_R (RB_U (RB_R hB2 (by omega)) (by omega)) (by omega)) (by omega)) (by omega)
          have h42e : ∀ j, (mR (mU (mR (mU (mR T' 31 (T'.1 47)) 30 7 0) 31 (sl1 (M.1 6) ((i : Int) - 1) g)) 42 2 ((i : Int) - 1)) 31 (nt (M.1 4) (M.1 3 4).toNat (sl1 (M.1 6) ((i : Int) - 1) g))).1 42 j = if j = 2 then (i : Int) - 1 else T'.1 42 j := by
            intro j
            rw [mR_ne (by decide), mU_R, mR_eq, mR_ne (by decide), mU_ne (by decide), mR_ne (by decide)]
          have hme : ∀ j, (mR (mU (mR (mU (mR T' 31 (T'.1 47)) 30 7 0) 31 (sl1 (M.1 6) ((i : Int) - 1) g)) 42 2 ((i : Int) - 1)) 31 (nt (M.1 4) (M.1 3 4).toNat (sl1 (M.1 6) ((i : Int) - 1) g))).1 (45 + j) = T'.1 (45 + j) := by
            intro j
            rw [mR_ne (by omega), mU_ne (by omega), mR_ne (by omega), mU_ne (by omega), mR_ne (by omega)]
          have hprx : ∀ t, t < 2 + 1 → (mR (mU (mR (mU (mR T' 31 (T'.1 47)) 30 7 0) 31 (sl1 (M.1 6) ((i : Int) - 1) g)) 42 2 ((i : Int) - 1)) 31 (nt (M.1 4) (M.1 3 4).toNat (sl1 (M.1 6) ((i : Int) - 1) g))).1 42 t = (pre ++ [(i : Int) - 1]).getD t 0 := by
            intro t ht0
            rw [h42e]
            by_cases hq : t = 2
            · rw [if_pos hq, List.getD_eq_getElem?_getD, List.getElem?_append_right (by omega), hq, hpl]
              simp
            · rw [if_neg hq, List.getD_eq_getElem?_getD, List.getElem?_append_left (by omega), ← List.getD_eq_getElem?_getD, hrow t (by omega)]
              exact hpr t (by omega)
          refine r_aload_n C rfl dX0_tryDay_162 ?_
          refine r_aload_n C rfl dX0_tryDay_163 ?_
          refine r_iload_n C rfl dX0_tryDay_164 ?_
          refine r_iload_n C rfl dX0_tryDay_165 ?_
          refine r_iload C rfl dX0_tryDay_166 ?_
          refine r_iconst C dX0_tryDay_168 ?_
          refine r_iadd C dX0_tryDay_169 ?_
          refine r_iload C rfl dX0_tryDay_170 ?_
          refine r_iload C rfl dX0_tryDay_172 ?_
          refine r_iadd C dX0_tryDay_174 ?_
          refine r_callV C dX0_tryDay_175 vw_X0_89 (ihr (mR (mU (mR (mU (mR T' 31 (T'.1 47)) 30 7 0) 31 (sl1 (M.1 6) ((i : Int) - 1) g)) 42 2 ((i : Int) - 1)) 31 (nt (M.1 4) (M.1 3 4).toNat (sl1 (M.1 6) ((i : Int) - 1) g))) M (nt (M.1 4) (M.1 3 4).toNat (sl1 (M.1 6) ((i : Int) - 1) g)) pl dc dr dp (2 + 1) days (sets + (dayV (M.1 7) pl dc dr dp (M.1 3 5).toNat 2 (sl1 (M.1 6) ((i : Int) - 1) g))) (pre ++ [(i : Int) - 1]) (fo (fun k b => weekD (M.1 7) pl dc dr dp (M.1 3 5).toNat (M.1 6) (M.1 4) (M.1 3 4).toNat r (2 + 1) (nt (M.1 4) (M.1 3 4).toNat (sl1 (M.1 6) ((k : Int) - 1) g)) (sets + dayV (M.1 7) pl dc dr dp (M.1 3 5).toNat 2 (sl1 (M.1 6) ((k : Int) - 1) g)) (pre ++ [(k : Int) - 1]) b) i b) z3 (z4 + 1) hSe mR_eq hte (oF_g hf hg2) hv hpos h3 (by omega) (by omega) hd3 (by omega) (by rw [List.length_append, hpl]; rfl) hprx hbi hBe) (by omega) rfl ly_41 rfl rfl (Nat.le_of_ble_eq_true rfl) ?_
          intro r U hpost
          obtain ⟨rfl, hSu, htu, hru, hmu, hBu⟩ := hpost
          refine r_iinc C dX0_tryDay_178 rfl (by decide) rfl ?_
          dsimp only [List.set, Nat.reduceAdd]
          refine r_goto C (tgt := 76) dX0_tryDay_181 rfl ?_
          refine ih U _ _ hSu htu ?_ ?_ ?_ ?_ (by omega)
          · rw [show (47 : Nat) = 45 + 2 from rfl, hmu 2 (by omega), hme]; exact hmo
          · intro j hj
            rw [hru j (by omega), h42e, if_neg (by omega)]; exact hrow j hj
          · intro j hj
            rw [hmu j (by omega), hme]; exact hmor j hj
          · exact hBu
      refine r_iload C rfl dX0_tryDay_0 ?_
      refine r_iload_n C rfl dX0_tryDay_2 ?_
      refine r_iload C rfl dX0_tryDay_3 ?_
      refine r_isub C dX0_tryDay_5 ?_
      refine r_aload_n C rfl dX0_tryDay_6 ?_
      refine r_geti C dX0_tryDay_7 fl_X0_93 ly_3 rfl ?_
      refine r_imul C dX0_tryDay_10 ?_
      refine r_iadd C dX0_tryDay_11 ?_
      refine r_aload_n C rfl dX0_tryDay_12 ?_
      refine r_geti C dX0_tryDay_13 fl_X0_30 ly_41 rfl ?_
      refine r_icmp_gt C (tgt := 20) dX0_tryDay_16 rfl (rgm (by rw [e3, hrm]; omega) (by rw [e3, hrm]; omega)) (rgm (by omega) (by omega)) (fun h16 => ?_) (fun h16 => absurd h16 (by rw [e3]; omega))
      refine r_iload C rfl dX0_tryDay_20 ?_
      refine r_iload_n C rfl dX0_tryDay_22 ?_
      refine r_icmp_ge C (tgt := 32) dX0_tryDay_23 rfl (by first | assumption | exact rgm (by omega) (by omega)) (by first | assumption | exact rgm (by omega) (by omega)) (fun h23 => absurd h23 (by omega)) (fun h23 => ?_)
      refine r_iload C rfl dX0_tryDay_26 ?_
      refine r_iconst C dX0_tryDay_28 ?_
      refine r_icmp_lt C (tgt := 53) dX0_tryDay_29 rfl (by first | assumption | exact rgm (by omega) (by omega)) (by first | assumption | exact rgm (by omega) (by omega)) (fun h29 => ?_) (fun h29 => absurd h29 (by omega))
      refine r_aload_n C rfl dX0_tryDay_53 ?_
      refine r_getr C dX0_tryDay_54 fl_X0_12 ly_41 rfl ?_
      refine r_getr C dX0_tryDay_57 fl_X0_83 ly_30 rfl ?_
      refine r_iconst C dX0_tryDay_60 ?_
      refine r_aload_n C rfl dX0_tryDay_61 ?_
      refine r_getr C dX0_tryDay_62 fl_X0_27 ly_41 rfl ?_
      refine r_iload C rfl dX0_tryDay_65 ?_
      refine r_aald C dX0_tryDay_67 ly_44 (by decide) (k := 2) (by omega) (by decide) rfl ?_
      refine r_iconst C dX0_tryDay_68 ?_
      refine r_iconst C dX0_tryDay_69 ?_
      refine r_copy C dX0_tryDay_70 ml_X0_77 sc_na sc_st sc_in (by omega) (Nat.le_of_ble_eq_true rfl) ly_31 ly_47 rfl rfl rfl (by decide) (by decide) ?_
      refine r_ext C (eqM_copy (n := 4) rfl) ?_
      refine r_iconst C dX0_tryDay_73 ?_
      refine r_istore C dX0_tryDay_74 6 rfl (by decide) rfl ?_
      dsimp only [List.set, Nat.reduceAdd]
      refine lp 0 (Nat.zero_le _) (mR T 47 (T.1 31)) _ _ (xS_tr hS (xS_R (by omega))) (t3_R ht (by omega)) (by rw [mR_eq]; exact hg) ?_ ?_ (RB_R hB (by omega)) rfl
      · intro j hj
        rw [mR_ne (by decide)]
      · intro j hj
        rw [mR_ne (by omega)]

set_option maxRecDepth 10000 in
set_option maxHeartbeats 1000000 in
theorem c_findWeek (M : Mm_) {z : Int} {days : Nat} (hz : z = days) (hd : days ≤ 3) (hv : oV M) (hpos : 0 < M.1 3 4) (hf : oF (M.1 9) (M.1 10) (M.1 8 7) (M.1 13) (M.1 14)) : Cn 7 kX0_findWeek [.ref 41, .ref 3, .ref 8, .int (zI z)] M (fun r U => r = none ∧ xS M U ∧ RB U days (weekD (M.1 7) (M.1 10) (M.1 8 7) (M.1 13) (M.1 14) (M.1 3 5).toNat (M.1 6) (M.1 4) (M.1 3 4).toNat days 0 (M.1 9) 0 [] (-1, []))) := by
  refine Cn.of rfl (Nat.le_of_ble_eq_true rfl) (fun G C E => ?_)
  show G 0 [.ref 41, .ref 3, .ref 8, .int (zI z)] [] M
  refine r_aload_n C rfl dX0_findWeek_0 ?_
  refine r_getr C dX0_findWeek_1 fl_X0_12 ly_41 rfl ?_
  refine r_aload_n C rfl dX0_findWeek_4 ?_
  refine r_callV C dX0_findWeek_5 vw_X0_40 (c_copyT2 (T := M) xS_rf) (by omega) rfl ly_30 rfl rfl (Nat.le_of_ble_eq_true rfl) ?_
  intro r T1 h1
  obtain ⟨rfl, hS1, ht1, h41a⟩ := h1
  refine r_aload_n C rfl dX0_findWeek_8 ?_
  refine r_iconst C dX0_findWeek_9 ?_
  refine r_put C dX0_findWeek_10 fl_X0_30 rfl (Or.inl rfl) ly_41 rfl ?_
  refine r_aload_n C rfl dX0_findWeek_13 ?_
  refine r_aload_n C rfl dX0_findWeek_14 ?_
  refine r_aload_n C rfl dX0_findWeek_15 ?_
  refine r_geti C dX0_findWeek_16 fl_X0_86 ly_8 rfl ?_
  rw [show (mU T1 41 4 (-1)).1 8 7 = M.1 8 7 by rw [mU_ne (by decide), hS1.1 8 (by omega)]]
  refine r_iload_n C rfl dX0_findWeek_19 ?_
  refine r_iconst C dX0_findWeek_20 ?_
  refine r_iconst C dX0_findWeek_21 ?_
  refine r_callV C dX0_findWeek_22 vw_X0_89 (c_tryDay days (mU T1 41 4 (-1)) M (M.1 9) (M.1 10) (M.1 8 7) (M.1 13) (M.1 14) 0 days 0 [] (-1, []) z 0 (xS_tr hS1 (xS_U (by omega))) (by rw [mU_ne (by decide)]; exact ht1.1) (t3_U ⟨ht1.2.1, ht1.2.2.2.1, ht1.2.2.2.2⟩ (by omega)) hf hv hpos hz rfl (by omega) hd (by omega) rfl (fun t h => absurd h (Nat.not_lt_zero t)) (by decide) ⟨by simp [mU], fun h => absurd rfl h⟩) (by omega) rfl ly_41 rfl rfl (Nat.le_of_ble_eq_true rfl) ?_
  intro r U hpost
  obtain ⟨rfl, hSu, htu, hru, hmu, hBu⟩ := hpost
  exact r_vret E dX0_findWeek_25 ⟨rfl, hSu, hBu⟩
