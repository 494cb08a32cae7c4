set_option maxRecDepth 4000 in
theorem c_isSlight (M : Mm_) {a : Int} (ra : rg a) : Cn 0 kX6_isSlight [.int (zI a)] M (pB (0 ≤ a ∧ a < 3) M) := by
  refine Cn.of rfl (Nat.le_of_ble_eq_true rfl) (fun G C E => ?_)
  show G 0 [.int (zI a)] [] M
  refine r_iload_n C rfl dX6_isSlight_0 ?_
  refine r_if_lt C (tgt := 13) dX6_isSlight_1 rfl (by first | assumption | exact rgm (by omega) (by omega)) (fun h1 => ?_) (fun h1 => ?_)
  · refine r_iconst C dX6_isSlight_13 ?_
    exact r_zret E dX6_isSlight_14 (by decide) (pB_f (by omega))
  · refine r_iload_n C rfl dX6_isSlight_4 ?_
    refine r_iconst C dX6_isSlight_5 ?_
    refine r_icmp_ge C (tgt := 13) dX6_isSlight_6 rfl (by first | assumption | exact rgm (by omega) (by omega)) (by first | assumption | exact rgm (by omega) (by omega)) (fun h6 => ?_) (fun h6 => ?_)
    · refine r_iconst C dX6_isSlight_13 ?_
      exact r_zret E dX6_isSlight_14 (by decide) (pB_f (by omega))
    · refine r_iconst C dX6_isSlight_9 ?_
      refine r_goto C (tgt := 14) dX6_isSlight_10 rfl ?_
      exact r_zret E dX6_isSlight_14 (by decide) (pB_t (by omega))
set_option maxRecDepth 4000 in
theorem c_isPlace (M : Mm_) {a : Int} (ra : rg a) : Cn 0 kX6_isPlace [.int (zI a)] M (pB (0 ≤ a ∧ a < 6) M) := by
  refine Cn.of rfl (Nat.le_of_ble_eq_true rfl) (fun G C E => ?_)
  show G 0 [.int (zI a)] [] M
  refine r_iload_n C rfl dX6_isPlace_0 ?_
  refine r_if_lt C (tgt := 14) dX6_isPlace_1 rfl (by first | assumption | exact rgm (by omega) (by omega)) (fun h1 => ?_) (fun h1 => ?_)
  · refine r_iconst C dX6_isPlace_14 ?_
    exact r_zret E dX6_isPlace_15 (by decide) (pB_f (by omega))
  · refine r_iload_n C rfl dX6_isPlace_4 ?_
    refine r_bipush C rfl dX6_isPlace_5 ?_
    refine r_icmp_ge C (tgt := 14) dX6_isPlace_7 rfl (by first | assumption | exact rgm (by omega) (by omega)) (by first | assumption | exact rgm (by omega) (by omega)) (fun h7 => ?_) (fun h7 => ?_)
    · refine r_iconst C dX6_isPlace_14 ?_
      exact r_zret E dX6_isPlace_15 (by decide) (pB_f (by omega))
    · refine r_iconst C dX6_isPlace_10 ?_
      refine r_goto C (tgt := 15) dX6_isPlace_11 rfl ?_
      exact r_zret E dX6_isPlace_15 (by decide) (pB_t (by omega))
set_option maxRecDepth 4000 in
theorem c_isRowPlace (M : Mm_) {a : Int} (ra : rg a) : Cn 0 kX6_isRowPlace [.int (zI a)] M (pB (10 ≤ a ∧ a < 13) M) := by
  refine Cn.of rfl (Nat.le_of_ble_eq_true rfl) (fun G C E => ?_)
  show G 0 [.int (zI a)] [] M
  refine r_iload_n C rfl dX6_isRowPlace_0 ?_
  refine r_bipush C rfl dX6_isRowPlace_1 ?_
  refine r_icmp_lt C (tgt := 16) dX6_isRowPlace_3 rfl (by first | assumption | exact rgm (by omega) (by omega)) (by first | assumption | exact rgm (by omega) (by omega)) (fun h3 => ?_) (fun h3 => ?_)
  · refine r_iconst C dX6_isRowPlace_16 ?_
    exact r_zret E dX6_isRowPlace_17 (by decide) (pB_f (by omega))
  · refine r_iload_n C rfl dX6_isRowPlace_6 ?_
    refine r_bipush C rfl dX6_isRowPlace_7 ?_
    refine r_icmp_ge C (tgt := 16) dX6_isRowPlace_9 rfl (by first | assumption | exact rgm (by omega) (by omega)) (by first | assumption | exact rgm (by omega) (by omega)) (fun h9 => ?_) (fun h9 => ?_)
    · refine r_iconst C dX6_isRowPlace_16 ?_
      exact r_zret E dX6_isRowPlace_17 (by decide) (pB_f (by omega))
    · refine r_iconst C dX6_isRowPlace_12 ?_
      refine r_goto C (tgt := 17) dX6_isRowPlace_13 rfl ?_
      exact r_zret E dX6_isRowPlace_17 (by decide) (pB_t (by omega))
set_option maxRecDepth 4000 in
theorem c_isOf (M : Mm_) {a b : Int} (ra : rg a) (rb : rg b) : Cn 0 kX4_isOf [.int (zI a), .int (zI b)] M (pB (b = 0 ∨ a = b ∨ (a = 4 ∧ b = 1)) M) := by
  refine Cn.of rfl (Nat.le_of_ble_eq_true rfl) (fun G C E => ?_)
  show G 0 [.int (zI a), .int (zI b)] [] M
  refine r_iload_n C rfl dX4_isOf_0 ?_
  refine r_if_eq C (tgt := 19) dX4_isOf_1 rfl (by first | assumption | exact rgm (by omega) (by omega)) (fun h1 => ?_) (fun h1 => ?_)
  · refine r_iconst C dX4_isOf_19 ?_
    refine r_goto C (tgt := 24) dX4_isOf_20 rfl ?_
    exact r_zret E dX4_isOf_24 (by decide) (pB_t (by omega))
  · refine r_iload_n C rfl dX4_isOf_4 ?_
    refine r_iload_n C rfl dX4_isOf_5 ?_
    refine r_icmp_eq C (tgt := 19) dX4_isOf_6 rfl (by first | assumption | exact rgm (by omega) (by omega)) (by first | assumption | exact rgm (by omega) (by omega)) (fun h6 => ?_) (fun h6 => ?_)
    · refine r_iconst C dX4_isOf_19 ?_
      refine r_goto C (tgt := 24) dX4_isOf_20 rfl ?_
      exact r_zret E dX4_isOf_24 (by decide) (pB_t (by omega))
    · refine r_iload_n C rfl dX4_isOf_9 ?_
      refine r_iconst C dX4_isOf_10 ?_
      refine r_icmp_ne C (tgt := 23) dX4_isOf_11 rfl (by first | assumption | exact rgm (by omega) (by omega)) (by first | assumption | exact rgm (by omega) (by omega)) (fun h11 => ?_) (fun h11 => ?_)
      · refine r_iconst C dX4_isOf_23 ?_
        exact r_zret E dX4_isOf_24 (by decide) (pB_f (by omega))
      · refine r_iload_n C rfl dX4_isOf_14 ?_
        refine r_iconst C dX4_isOf_15 ?_
        refine r_icmp_ne C (tgt := 23) dX4_isOf_16 rfl (by first | assumption | exact rgm (by omega) (by omega)) (by first | assumption | exact rgm (by omega) (by omega)) (fun h16 => ?_) (fun h16 => ?_)
        · refine r_iconst C dX4_isOf_23 ?_
          exact r_zret E dX4_isOf_24 (by decide) (pB_f (by omega))
        · refine r_iconst C dX4_isOf_19 ?_
          refine r_goto C (tgt := 24) dX4_isOf_20 rfl ?_
          exact r_zret E dX4_isOf_24 (by decide) (pB_t (by omega))
set_option maxRecDepth 4000 in
theorem c_reach (M : Mm_) {g p q : Int} (hg : 0 ≤ g ∧ g ≤ 99) (hp : 0 ≤ p ∧ p ≤ 5) (hq : 0 ≤ q ∧ q ≤ 5) : Cn 0 kX3_reach [.int (zI g), .int (zI p), .int (zI q)] M (pZ (rch g p q) M) := by
  refine Cn.of rfl (Nat.le_of_ble_eq_true rfl) (fun G C E => ?_)
  show G 0 [.int (zI g), .int (zI p), .int (zI q), .null] [] M
  refine r_iload_n C rfl dX3_reach_0 ?_
  refine r_iconst C dX3_reach_1 ?_
  refine r_iload_n C rfl dX3_reach_2 ?_
  refine r_iload_n C rfl dX3_reach_3 ?_
  refine r_icmp_ge C (tgt := 13) dX3_reach_4 rfl (by first | assumption | exact rgm (by omega) (by omega)) (by first | assumption | exact rgm (by omega) (by omega)) (fun h4 => ?_) (fun h4 => ?_)
  · refine r_iload_n C rfl dX3_reach_13 ?_
    refine r_iload_n C rfl dX3_reach_14 ?_
    refine r_isub C dX3_reach_15 ?_
    refine r_imul C dX3_reach_16 ?_
    refine r_isub C dX3_reach_17 ?_
    refine r_istore_n C dX3_reach_18 3 rfl (by decide) rfl ?_
    dsimp only [List.set, Nat.reduceAdd]
    refine r_iload_n C rfl dX3_reach_19 ?_
    refine r_if_le C (tgt := 27) dX3_reach_20 rfl (by first | assumption | exact rgm (by omega) (by omega)) (fun h20 => ?_) (fun h20 => ?_)
    · refine r_iconst C dX3_reach_27 ?_
      exact r_iret E dX3_reach_28 (pZ_of (by unfold rch dst; split <;> split <;> omega))
    · refine r_iload_n C rfl dX3_reach_23 ?_
      refine r_goto C (tgt := 28) dX3_reach_24 rfl ?_
      exact r_iret E dX3_reach_28 (pZ_of (by unfold rch dst; split <;> split <;> omega))
  · refine r_iload_n C rfl dX3_reach_7 ?_
    refine r_iload_n C rfl dX3_reach_8 ?_
    refine r_isub C dX3_reach_9 ?_
    refine r_goto C (tgt := 16) dX3_reach_10 rfl ?_
    refine r_imul C dX3_reach_16 ?_
    refine r_isub C dX3_reach_17 ?_
    refine r_istore_n C dX3_reach_18 3 rfl (by decide) rfl ?_
    dsimp only [List.set, Nat.reduceAdd]
    refine r_iload_n C rfl dX3_reach_19 ?_
    refine r_if_le C (tgt := 27) dX3_reach_20 rfl (by first | assumption | exact rgm (by omega) (by omega)) (fun h20 => ?_) (fun h20 => ?_)
    · refine r_iconst C dX3_reach_27 ?_
      exact r_iret E dX3_reach_28 (pZ_of (by unfold rch dst; split <;> split <;> omega))
    · refine r_iload_n C rfl dX3_reach_23 ?_
      refine r_goto C (tgt := 28) dX3_reach_24 rfl ?_
      exact r_iret E dX3_reach_28 (pZ_of (by unfold rch dst; split <;> split <;> omega))
set_option maxRecDepth 4000 in
theorem c_forceAt8 (M : Mm_) {q : Int} (hq : 0 ≤ q ∧ q ≤ 5) (hg : ∀ i, i < 4 → 0 ≤ M.1 9 i ∧ M.1 9 i ≤ 99) (hp : ∀ i, i < 4 → 0 ≤ M.1 10 i ∧ M.1 10 i ≤ 5) (hdc : 0 ≤ M.1 8 7 ∧ M.1 8 7 ≤ 4) (hdr : ∀ i, i < 4 → 0 ≤ M.1 13 i ∧ M.1 13 i ≤ 99) (hdp : ∀ i, i < 4 → 0 ≤ M.1 14 i ∧ M.1 14 i ≤ 5) : Cn 1 kX3_forceAt [.ref 8, .int (zI q)] M (pZ (fr 4 (M.1 9) (M.1 10) q + fr (M.1 8 7).toNat (M.1 13) (M.1 14) q) M) := by
  refine Cn.of rfl (Nat.le_of_ble_eq_true rfl) (fun G C E => ?_)
  show G 0 [.ref 8, .int (zI q), .null, .null] [] M
  have b1 : 0 ≤ fr 4 (M.1 9) (M.1 10) q ∧ fr 4 (M.1 9) (M.1 10) q ≤ 99 * 4 := sm_le (n := 4) (fun i hi => rch_b (hg i hi).1 (hg i hi).2)
  have lp2 : ∀ i, i ≤ (M.1 8 7).toNat → ∀ s z : Int, s = fr 4 (M.1 9) (M.1 10) q + sm (fun i => rch (M.1 13 i) (M.1 14 i) q) i → z = i → G 45 [.ref 8, .int (zI q), .int (zI s), .int (zI z)] [] M := by
    refine lpN _ ?_ ?_
    · intro s z hs hz
      refine r_iload_n C rfl dX3_forceAt_45 ?_
      refine r_aload_n C rfl dX3_forceAt_46 ?_
      refine r_geti C dX3_forceAt_47 fl_X3_47 ly_8 rfl ?_
      refine r_icmp_ge C (tgt := 78) dX3_forceAt_50 rfl (by first | assumption | exact rgm (by omega) (by omega)) (by first | assumption | exact rgm (by omega) (by omega)) (fun h50 => ?_) (fun h50 => absurd h50 (by omega))
      refine r_iload_n C rfl dX3_forceAt_78 ?_
      exact r_iret E dX3_forceAt_79 (pZ_of hs)
    · intro i hi ih s z hs hz
      refine r_iload_n C rfl dX3_forceAt_45 ?_
      refine r_aload_n C rfl dX3_forceAt_46 ?_
      refine r_geti C dX3_forceAt_47 fl_X3_47 ly_8 rfl ?_
      refine r_icmp_ge C (tgt := 78) dX3_forceAt_50 rfl (by first | assumption | exact rgm (by omega) (by omega)) (by first | assumption | exact rgm (by omega) (by omega)) (fun h50 => absurd h50 (by omega)) (fun h50 => ?_)
      refine r_iload_n C rfl dX3_forceAt_53 ?_
      refine r_aload_n C rfl dX3_forceAt_54 ?_
      refine r_getr C dX3_forceAt_55 fl_X3_24 ly_8 rfl ?_
      refine r_iload_n C rfl dX3_forceAt_58 ?_
      refine r_iald C dX3_forceAt_59 ly_13 hz (by omega) ?_
      refine r_aload_n C rfl dX3_forceAt_60 ?_
      refine r_getr C dX3_forceAt_61 fl_X3_27 ly_8 rfl ?_
      refine r_iload_n C rfl dX3_forceAt_64 ?_
      refine r_iald C dX3_forceAt_65 ly_14 hz (by omega) ?_
      refine r_iload_n C rfl dX3_forceAt_66 ?_
      refine r_cSz C dX3_forceAt_67 sw_X3_73 (c_reach M (hdr i (by omega)) (hdp i (by omega)) hq) (by decide) rfl rfl (Nat.le_of_ble_eq_true rfl) ?_
      refine r_iadd C dX3_forceAt_70 ?_
      refine r_istore_n C dX3_forceAt_71 2 rfl (by decide) rfl ?_
      dsimp only [List.set, Nat.reduceAdd]
      refine r_iinc C dX3_forceAt_72 rfl (by decide) rfl ?_
      dsimp only [List.set, Nat.reduceAdd]
      refine r_goto C (tgt := 45) dX3_forceAt_75 rfl ?_
      exact ih _ _ (by simp only [sm]; omega) (by omega)
  have lp1 : ∀ i, i ≤ 4 → ∀ s z : Int, s = sm (fun i => rch (M.1 9 i) (M.1 10 i) q) i → z = i → G 4 [.ref 8, .int (zI q), .int (zI s), .int (zI z)] [] M := by
    refine lpN _ ?_ ?_
    · intro s z hs hz
      refine r_iload_n C rfl dX3_forceAt_4 ?_
      refine r_iconst C dX3_forceAt_5 ?_
      refine r_icmp_ge C (tgt := 43) dX3_forceAt_6 rfl (by first | assumption | exact rgm (by omega) (by omega)) (by first | assumption | exact rgm (by omega) (by omega)) (fun h6 => ?_) (fun h6 => absurd h6 (by omega))
      refine r_iconst C dX3_forceAt_43 ?_
      refine r_istore_n C dX3_forceAt_44 3 rfl (by decide) rfl ?_
      dsimp only [List.set, Nat.reduceAdd]
      exact lp2 0 (Nat.zero_le _) _ _ (by rw [hs]; simp [sm, fr]) rfl
    · intro i hi ih s z hs hz
      have hgi := hg i hi
      refine r_iload_n C rfl dX3_forceAt_4 ?_
      refine r_iconst C dX3_forceAt_5 ?_
      refine r_icmp_ge C (tgt := 43) dX3_forceAt_6 rfl (by first | assumption | exact rgm (by omega) (by omega)) (by first | assumption | exact rgm (by omega) (by omega)) (fun h6 => absurd h6 (by omega)) (fun h6 => ?_)
      refine r_aload_n C rfl dX3_forceAt_9 ?_
      refine r_getr C dX3_forceAt_10 fl_X3_9 ly_8 rfl ?_
      refine r_iload_n C rfl dX3_forceAt_13 ?_
      refine r_iald C dX3_forceAt_14 ly_9 hz (by omega) ?_
      refine r_if_le C (tgt := 37) dX3_forceAt_15 rfl (by first | assumption | exact rgm (by omega) (by omega)) (fun h15 => ?_) (fun h15 => ?_)
      · refine r_iinc C dX3_forceAt_37 rfl (by decide) rfl ?_
        dsimp only [List.set, Nat.reduceAdd]
        refine r_goto C (tgt := 4) dX3_forceAt_40 rfl ?_
        exact ih _ _ (by simp only [sm]; rw [show M.1 9 i = 0 by omega, rch_0]; omega) (by omega)
      · refine r_iload_n C rfl dX3_forceAt_18 ?_
        refine r_aload_n C rfl dX3_forceAt_19 ?_
        refine r_getr C dX3_forceAt_20 fl_X3_9 ly_8 rfl ?_
        refine r_iload_n C rfl dX3_forceAt_23 ?_
        refine r_iald C dX3_forceAt_24 ly_9 hz (by omega) ?_
        refine r_aload_n C rfl dX3_forceAt_25 ?_
        refine r_getr C dX3_forceAt_26 fl_X3_15 ly_8 rfl ?_
        refine r_iload_n C rfl dX3_forceAt_29 ?_
        refine r_iald C dX3_forceAt_30 ly_10 hz (by omega) ?_
        refine r_iload_n C rfl dX3_forceAt_31 ?_
        refine r_cSz C dX3_forceAt_32 sw_X3_73 (c_reach M (hg i hi) (hp i hi) hq) (by decide) rfl rfl (Nat.le_of_ble_eq_true rfl) ?_
        refine r_iadd C dX3_forceAt_35 ?_
        refine r_istore_n C dX3_forceAt_36 2 rfl (by decide) rfl ?_
        dsimp only [List.set, Nat.reduceAdd]
        refine r_iinc C dX3_forceAt_37 rfl (by decide) rfl ?_
        dsimp only [List.set, Nat.reduceAdd]
        refine r_goto C (tgt := 4) dX3_forceAt_40 rfl ?_
        exact ih _ _ (by simp only [sm]; omega) (by omega)
  refine r_iconst C dX3_forceAt_0 ?_
  refine r_istore_n C dX3_forceAt_1 2 rfl (by decide) rfl ?_
  dsimp only [List.set, Nat.reduceAdd]
  refine r_iconst C dX3_forceAt_2 ?_
  refine r_istore_n C dX3_forceAt_3 3 rfl (by decide) rfl ?_
  dsimp only [List.set, Nat.reduceAdd]
  exact lp1 0 (by omega) _ _ rfl rfl
set_option maxRecDepth 4000 in
theorem c_forceAt30 (M : Mm_) {q : Int} (hq : 0 ≤ q ∧ q ≤ 5) (hg : ∀ i, i < 4 → 0 ≤ M.1 31 i ∧ M.1 31 i ≤ 99) (hp : ∀ i, i < 4 → 0 ≤ M.1 32 i ∧ M.1 32 i ≤ 5) (hdc : 0 ≤ M.1 30 7 ∧ M.1 30 7 ≤ 4) (hdr : ∀ i, i < 4 → 0 ≤ M.1 35 i ∧ M.1 35 i ≤ 99) (hdp : ∀ i, i < 4 → 0 ≤ M.1 36 i ∧ M.1 36 i ≤ 5) : Cn 1 kX3_forceAt [.ref 30, .int (zI q)] M (pZ (fr 4 (M.1 31) (M.1 32) q + fr (M.1 30 7).toNat (M.1 35) (M.1 36) q) M) := by
  refine Cn.of rfl (Nat.le_of_ble_eq_true rfl) (fun G C E => ?_)
  show G 0 [.ref 30, .int (zI q), .null, .null] [] M
  have b1 : 0 ≤ fr 4 (M.1 31) (M.1 32) q ∧ fr 4 (M.1 31) (M.1 32) q ≤ 99 * 4 := sm_le (n := 4) (fun i hi => rch_b (hg i hi).1 (hg i hi).2)
  have lp2 : ∀ i, i ≤ (M.1 30 7).toNat → ∀ s z : Int, s = fr 4 (M.1 31) (M.1 32) q + sm (fun i => rch (M.1 35 i) (M.1 36 i) q) i → z = i → G 45 [.ref 30, .int (zI q), .int (zI s), .int (zI z)] [] M := by
    refine lpN _ ?_ ?_
    · intro s z hs hz
      refine r_iload_n C rfl dX3_forceAt_45 ?_
      refine r_aload_n C rfl dX3_forceAt_46 ?_
      refine r_geti C dX3_forceAt_47 fl_X3_47 ly_30 rfl ?_
      refine r_icmp_ge C (tgt := 78) dX3_forceAt_50 rfl (by first | assumption | exact rgm (by omega) (by omega)) (by first | assumption | exact rgm (by omega) (by omega)) (fun h50 => ?_) (fun h50 => absurd h50 (by omega))
      refine r_iload_n C rfl dX3_forceAt_78 ?_
      exact r_iret E dX3_forceAt_79 (pZ_of hs)
    · intro i hi ih s z hs hz
      refine r_iload_n C rfl dX3_forceAt_45 ?_
      refine r_aload_n C rfl dX3_forceAt_46 ?_
      refine r_geti C dX3_forceAt_47 fl_X3_47 ly_30 rfl ?_
      refine r_icmp_ge C (tgt := 78) dX3_forceAt_50 rfl (by first | assumption | exact rgm (by omega) (by omega)) (by first | assumption | exact rgm (by omega) (by omega)) (fun h50 => absurd h50 (by omega)) (fun h50 => ?_)
      refine r_iload_n C rfl dX3_forceAt_53 ?_
      refine r_aload_n C rfl dX3_forceAt_54 ?_
      refine r_getr C dX3_forceAt_55 fl_X3_24 ly_30 rfl ?_
      refine r_iload_n C rfl dX3_forceAt_58 ?_
      refine r_iald C dX3_forceAt_59 ly_35 hz (by omega) ?_
      refine r_aload_n C rfl dX3_forceAt_60 ?_
      refine r_getr C dX3_forceAt_61 fl_X3_27 ly_30 rfl ?_
      refine r_iload_n C rfl dX3_forceAt_64 ?_
      refine r_iald C dX3_forceAt_65 ly_36 hz (by omega) ?_
      refine r_iload_n C rfl dX3_forceAt_66 ?_
      refine r_cSz C dX3_forceAt_67 sw_X3_73 (c_reach M (hdr i (by omega)) (hdp i (by omega)) hq) (by decide) rfl rfl (Nat.le_of_ble_eq_true rfl) ?_
      refine r_iadd C dX3_forceAt_70 ?_
      refine r_istore_n C dX3_forceAt_71 2 rfl (by decide) rfl ?_
      dsimp only [List.set, Nat.reduceAdd]
      refine r_iinc C dX3_forceAt_72 rfl (by decide) rfl ?_
      dsimp only [List.set, Nat.reduceAdd]
      refine r_goto C (tgt := 45) dX3_forceAt_75 rfl ?_
      exact ih _ _ (by simp only [sm]; omega) (by omega)
  have lp1 : ∀ i, i ≤ 4 → ∀ s z : Int, s = sm (fun i => rch (M.1 31 i) (M.1 32 i) q) i → z = i → G 4 [.ref 30, .int (zI q), .int (zI s), .int (zI z)] [] M := by
    refine lpN _ ?_ ?_
    · intro s z hs hz
      refine r_iload_n C rfl dX3_forceAt_4 ?_
      refine r_iconst C dX3_forceAt_5 ?_
      refine r_icmp_ge C (tgt := 43) dX3_forceAt_6 rfl (by first | assumption | exact rgm (by omega) (by omega)) (by first | assumption | exact rgm (by omega) (by omega)) (fun h6 => ?_) (fun h6 => absurd h6 (by omega))
      refine r_iconst C dX3_forceAt_43 ?_
      refine r_istore_n C dX3_forceAt_44 3 rfl (by decide) rfl ?_
      dsimp only [List.set, Nat.reduceAdd]
      exact lp2 0 (Nat.zero_le _) _ _ (by rw [hs]; simp [sm, fr]) rfl
    · intro i hi ih s z hs hz
      have hgi := hg i hi
      refine r_iload_n C rfl dX3_forceAt_4 ?_
      refine r_iconst C dX3_forceAt_5 ?_
      refine r_icmp_ge C (tgt := 43) dX3_forceAt_6 rfl (by first | assumption | exact rgm (by omega) (by omega)) (by first | assumption | exact rgm (by omega) (by omega)) (fun h6 => absurd h6 (by omega)) (fun h6 => ?_)
      refine r_aload_n C rfl dX3_forceAt_9 ?_
      refine r_getr C dX3_forceAt_10 fl_X3_9 ly_30 rfl ?_
      refine r_iload_n C rfl dX3_forceAt_13 ?_
      refine r_iald C dX3_forceAt_14 ly_31 hz (by omega) ?_
      refine r_if_le C (tgt := 37) dX3_forceAt_15 rfl (by first | assumption | exact rgm (by omega) (by omega)) (fun h15 => ?_) (fun h15 => ?_)
      · refine r_iinc C dX3_forceAt_37 rfl (by decide) rfl ?_
        dsimp only [List.set, Nat.reduceAdd]
        refine r_goto C (tgt := 4) dX3_forceAt_40 rfl ?_
        exact ih _ _ (by simp only [sm]; rw [show M.1 31 i = 0 by omega, rch_0]; omega) (by omega)
      · refine r_iload_n C rfl dX3_forceAt_18 ?_
        refine r_aload_n C rfl dX3_forceAt_19 ?_
        refine r_getr C dX3_forceAt_20 fl_X3_9 ly_30 rfl ?_
        refine r_iload_n C rfl dX3_forceAt_23 ?_
        refine r_iald C dX3_forceAt_24 ly_31 hz (by omega) ?_
        refine r_aload_n C rfl dX3_forceAt_25 ?_
        refine r_getr C dX3_forceAt_26 fl_X3_15 ly_30 rfl ?_
        refine r_iload_n C rfl dX3_forceAt_29 ?_
        refine r_iald C dX3_forceAt_30 ly_32 hz (by omega) ?_
        refine r_iload_n C rfl dX3_forceAt_31 ?_
        refine r_cSz C dX3_forceAt_32 sw_X3_73 (c_reach M (hg i hi) (hp i hi) hq) (by decide) rfl rfl (Nat.le_of_ble_eq_true rfl) ?_
        refine r_iadd C dX3_forceAt_35 ?_
        refine r_istore_n C dX3_forceAt_36 2 rfl (by decide) rfl ?_
        dsimp only [List.set, Nat.reduceAdd]
        refine r_iinc C dX3_forceAt_37 rfl (by decide) rfl ?_
        dsimp only [List.set, Nat.reduceAdd]
        refine r_goto C (tgt := 4) dX3_forceAt_40 rfl ?_
        exact ih _ _ (by simp only [sm]; omega) (by omega)
  refine r_iconst C dX3_forceAt_0 ?_
  refine r_istore_n C dX3_forceAt_1 2 rfl (by decide) rfl ?_
  dsimp only [List.set, Nat.reduceAdd]
  refine r_iconst C dX3_forceAt_2 ?_
  refine r_istore_n C dX3_forceAt_3 3 rfl (by decide) rfl ?_
  dsimp only [List.set, Nat.reduceAdd]
  exact lp1 0 (by omega) _ _ rfl rfl
