set_option maxRecDepth 10000 in
set_option maxHeartbeats 1000000 in
theorem c_whoOf {V M : Mm_} (hSV : mS M V) {q : Int} (rq : rg q) (hM : oM M) : Cn 3 kX7_whoOf [.ref 48, .int (zI q)] V (pS (whoM M q (3 * M.1 48 3).toNat) M) := by
  obtain ⟨hpg, hv, hrw, hf, hg, hse, hbo, hst, hni⟩ := hM
  have hv0 : (M.1 48 3 = 0 ∧ M.1 48 4 = 0) ∨ (2 ≤ M.1 48 3 ∧ M.1 48 3 ≤ 4 ∧ 2 ≤ M.1 48 4 ∧ M.1 48 4 ≤ 6) := hv
  obtain ⟨n, hn⟩ : ∃ n : Nat, M.1 48 3 = n := ⟨(M.1 48 3).toNat, by omega⟩
  rw [show (3 * M.1 48 3).toNat = 3 * n by omega]
  refine Cn.of rfl (Nat.le_of_ble_eq_true rfl) (fun G C E => ?_)
  show G 0 [.ref 48, .int (zI q), .null, .null] [] V
  have lp : ∀ i : Nat, i ≤ 3 * n → ∀ (T : Mm_) (s z : Int), mS M T → s = sb (fun num => decide (WDc (M.1 53) (FM M (sl1 (grM M) (num : Int) (M.1 52)) true) (M.1 48 4).toNat = q)) i → z = i → G 4 [.ref 48, .int (zI q), .int (zI s), .int (zI z)] [] T := by
    refine lpN (3 * n) ?_ ?_
    · intro T s z hS hs hz
      have e3 : T.1 48 3 = n := by rw [hS.2.1 3 (by omega) (by omega)]; exact hn
      refine r_iload_n C rfl dX7_whoOf_4 ?_
      refine r_iconst C dX7_whoOf_5 ?_
      refine r_aload_n C rfl dX7_whoOf_6 ?_
      refine r_geti C dX7_whoOf_7 fl_X7_109 ly_48 rfl ?_
      refine r_imul C dX7_whoOf_10 ?_
      refine r_icmp_ge C (tgt := 63) dX7_whoOf_11 rfl (by first | assumption | exact rgm (by omega) (by omega)) (by first | assumption | exact rgm (by omega) (by omega)) (fun h11 => ?_) (fun h11 => absurd h11 (by omega))
      refine r_iload_n C rfl dX7_whoOf_63 ?_
      exact r_iret E dX7_whoOf_64 ⟨by rw [hs]; rfl, hS⟩
    · intro i hi ih T s z hS hs hz
      have e3 : T.1 48 3 = n := by rw [hS.2.1 3 (by omega) (by omega)]; exact hn
      have hWb := WDc_b (M.1 53) (FM M (sl1 (grM M) z (M.1 52)) true) (M.1 48 4).toNat (by omega)
      have hsb9 := sbb (fun num => decide (WDc (M.1 53) (FM M (sl1 (grM M) (num : Int) (M.1 52)) true) (M.1 48 4).toNat = q)) i
      refine r_iload_n C rfl dX7_whoOf_4 ?_
      refine r_iconst C dX7_whoOf_5 ?_
      refine r_aload_n C rfl dX7_whoOf_6 ?_
      refine r_geti C dX7_whoOf_7 fl_X7_109 ly_48 rfl ?_
      refine r_imul C dX7_whoOf_10 ?_
      refine r_icmp_ge C (tgt := 63) dX7_whoOf_11 rfl (by first | assumption | exact rgm (by omega) (by omega)) (by first | assumption | exact rgm (by omega) (by omega)) (fun h11 => absurd h11 (by omega)) (fun h11 => ?_)
      refine r_aload_n C rfl dX7_whoOf_14 ?_
      refine r_getr C dX7_whoOf_15 fl_X7_19 ly_48 rfl ?_
      refine r_aload_n C rfl dX7_whoOf_18 ?_
      refine r_getr C dX7_whoOf_19 fl_X7_34 ly_48 rfl ?_
      refine r_cSv C dX7_whoOf_22 sw_X7_205 (c_copyW hS) (by decide) rfl rfl (Nat.le_of_ble_eq_true rfl) ?_
      refine r_aload_n C rfl dX7_whoOf_25 ?_
      refine r_aload_n C rfl dX7_whoOf_26 ?_
      refine r_getr C dX7_whoOf_27 fl_X7_34 ly_48 rfl ?_
      refine r_iload_n C rfl dX7_whoOf_30 ?_
      refine r_cVv C dX7_whoOf_31 vw_X7_209 (c_slightW (M := M) (mS_R2 hS (by decide)) mR_eq (by omega) (by omega) hrw hg) (by decide) rfl ly_48 rfl rfl (Nat.le_of_ble_eq_true rfl) ?_
      rw [mR_mR]
      refine r_iload_n C rfl dX7_whoOf_34 ?_
      refine r_aload_n C rfl dX7_whoOf_35 ?_
      refine r_aload_n C rfl dX7_whoOf_36 ?_
      refine r_getr C dX7_whoOf_37 fl_X7_34 ly_48 rfl ?_
      refine r_iconst C dX7_whoOf_40 ?_
      refine r_cVz C dX7_whoOf_41 vw_X7_162 (c_wouldW1 (M := M) (mS_R2 hS (by decide)) mR_eq hv hf (sl1_99 hrw (by omega) hg)) (by decide) rfl ly_48 rfl rfl (Nat.le_of_ble_eq_true rfl) ?_
      refine r_iload_n C rfl dX7_whoOf_44 ?_
      refine r_icmp_ne C (tgt := 54) dX7_whoOf_45 rfl (by first | assumption | exact rgm (by omega) (by omega)) (by first | assumption | exact rgm (by omega) (by omega)) (fun h45 => ?_) (fun h45 => ?_)
      · refine r_iconst C dX7_whoOf_54 ?_
        refine r_ior C (v := s) (by rw [show zI s ||| zI 0 = zI s from Int32.or_zero]) dX7_whoOf_55 ?_
        refine r_istore_n C dX7_whoOf_56 2 rfl (by decide) rfl ?_
        dsimp only [List.set, Nat.reduceAdd]
        refine r_iinc C dX7_whoOf_57 rfl (by decide) rfl ?_
        dsimp only [List.set, Nat.reduceAdd]
        refine r_goto C (tgt := 4) dX7_whoOf_60 rfl ?_
        exact ih _ _ _ (mS_R2 hS (by decide)) (by show _ = sb (fun num => decide (WDc (M.1 53) (FM M (sl1 (grM M) (num : Int) (M.1 52)) true) (M.1 48 4).toNat = q)) (i + 1); rw [sb_s, if_neg (by simp only [decide_eq_true_eq]; rw [← hz]; exact h45), hs]; exact (Int.add_zero _).symm) (by omega)
      · refine r_iconst C dX7_whoOf_48 ?_
        refine r_iload_n C rfl dX7_whoOf_49 ?_
        refine r_ishl C (v := 2 ^ i) (by rw [hz]; exact zb_shl (by omega)) dX7_whoOf_50 ?_
        refine r_goto C (tgt := 55) dX7_whoOf_51 rfl ?_
        refine r_ior C (v := s + 2 ^ i) (zb_or (by omega) (by omega) (by omega)) dX7_whoOf_55 ?_
        refine r_istore_n C dX7_whoOf_56 2 rfl (by decide) rfl ?_
        dsimp only [List.set, Nat.reduceAdd]
        refine r_iinc C dX7_whoOf_57 rfl (by decide) rfl ?_
        dsimp only [List.set, Nat.reduceAdd]
        refine r_goto C (tgt := 4) dX7_whoOf_60 rfl ?_
        exact ih _ _ _ (mS_R2 hS (by decide)) (by show _ = sb (fun num => decide (WDc (M.1 53) (FM M (sl1 (grM M) (num : Int) (M.1 52)) true) (M.1 48 4).toNat = q)) (i + 1); rw [sb_s, if_pos (by simp only [decide_eq_true_eq]; rw [← hz]; exact h45), hs]) (by omega)
  refine r_iconst C dX7_whoOf_0 ?_
  refine r_istore_n C dX7_whoOf_1 2 rfl (by decide) rfl ?_
  dsimp only [List.set, Nat.reduceAdd]
  refine r_iconst C dX7_whoOf_2 ?_
  refine r_istore_n C dX7_whoOf_3 3 rfl (by decide) rfl ?_
  dsimp only [List.set, Nat.reduceAdd]
  exact lp 0 (Nat.zero_le _) V _ _ hSV rfl rfl
set_option maxRecDepth 10000 in
set_option maxHeartbeats 1000000 in
theorem c_m_who (M : Mm_) {q : Int} (rq : rg q) (hM : oM M) : Cn 4 kX7_who [.ref 48, .int (zI q)] M (fun r U => r = some (.int (zI (if 0 ≤ q ∧ q < 2 ^ (M.1 48 4).toNat then (if 0 < M.1 48 3 then whoM M q (3 * M.1 48 3).toNat else -103) else -102))) ∧ mS (M) U) := by
  have hM0 := hM
  obtain ⟨hpg, hv, hrw, hf, hg, hse, hbo, hst, hni⟩ := hM
  have hv0 : (M.1 48 3 = 0 ∧ M.1 48 4 = 0) ∨ (2 ≤ M.1 48 3 ∧ M.1 48 3 ≤ 4 ∧ 2 ≤ M.1 48 4 ∧ M.1 48 4 ≤ 6) := hv
  obtain ⟨m, hm⟩ : ∃ m : Nat, M.1 48 4 = m := ⟨(M.1 48 4).toNat, by omega⟩
  have em : (M.1 48 4).toNat = m := by omega
  have hpw := pw_b (k := m) (by omega)
  rw [em]
  refine Cn.of rfl (Nat.le_of_ble_eq_true rfl) (fun G C E => ?_)
  show G 0 [.ref 48, .int (zI q)] [] M
  refine r_iload_n C rfl dX7_who_0 ?_
  refine r_i2l C dX7_who_1 ?_
  refine r_lconst C dX7_who_2 ?_
  refine r_iconst C dX7_who_3 ?_
  refine r_aload_n C rfl dX7_who_4 ?_
  refine r_geti C dX7_who_5 fl_X7_112 ly_48 rfl ?_
  refine r_ishl C (v := 2 ^ m) (by rw [hm]; exact zb_shl (by omega)) dX7_who_8 ?_
  refine r_iconst C dX7_who_9 ?_
  refine r_isub C dX7_who_10 ?_
  refine r_i2l C dX7_who_11 ?_
  refine r_cSb C dX7_who_12 sw_X7_76 (c_inZ M (b := 0) (c := 2 ^ m - 1) rq rfl (zl_toInt (rgm (by omega) (by omega)))) (by decide) rfl rfl (Nat.le_of_ble_eq_true rfl) (fun h12 => ?_) (fun h12 => ?_)
  · refine r_if_ne C (tgt := 21) dX7_who_15 rfl (by first | assumption | exact rgm (by omega) (by omega)) (fun h15 => ?_) (fun h15 => absurd h15 (by decide))
    refine r_aload_n C rfl dX7_who_21 ?_
    refine r_cVb C dX7_who_22 vw_X7_133 (c_lacks M hv) (by decide) rfl ly_48 rfl rfl (Nat.le_of_ble_eq_true rfl) (fun h22 => ?_) (fun h22 => ?_)
    · refine r_if_eq C (tgt := 33) dX7_who_25 rfl (by first | assumption | exact rgm (by omega) (by omega)) (fun h25 => absurd h25 (by decide)) (fun h25 => ?_)
      refine r_bipush C rfl dX7_who_28 ?_
      refine r_goto C (tgt := 38) dX7_who_30 rfl ?_
      exact r_iret E dX7_who_38 ⟨by rw [if_pos (by omega), if_neg (by omega)], mS_rf⟩
    · refine r_if_eq C (tgt := 33) dX7_who_25 rfl (by first | assumption | exact rgm (by omega) (by omega)) (fun h25 => ?_) (fun h25 => absurd h25 (by decide))
      refine r_aload_n C rfl dX7_who_33 ?_
      refine r_iload_n C rfl dX7_who_34 ?_
      refine r_callV C dX7_who_35 vw_X7_268 (c_whoOf mS_rf rq hM0) (by decide) rfl ly_48 rfl rfl (Nat.le_of_ble_eq_true rfl) ?_
      intro r T h
      obtain ⟨rfl, hS⟩ := h
      try dsimp only [Option.toList, List.cons_append, List.nil_append]
      exact r_iret E dX7_who_38 ⟨by rw [if_pos (by omega), if_pos (by omega)], hS⟩
  · refine r_if_ne C (tgt := 21) dX7_who_15 rfl (by first | assumption | exact rgm (by omega) (by omega)) (fun h15 => absurd h15 (by decide)) (fun h15 => ?_)
    refine r_bipush C rfl dX7_who_18 ?_
    exact r_iret E dX7_who_20 ⟨by rw [if_neg (by omega)], mS_rf⟩
set_option maxRecDepth 10000 in
set_option maxHeartbeats 1000000 in
theorem c_m_see (M : Mm_) {k : Nat} {q y : Int} (hk : (k : Int) < M.1 48 3) (rq : rg q) (ry : rg y) (hM : oM M) : Cn 2 kX7_see [.ref 48, .int (zI (k : Int)), .int (zI q), .int (zI y)] M (fun r U => r = some (.int (zI (if ((0 ≤ q ∧ q < 3) ∧ (0 ≤ y ∧ y ≤ 99)) then (if 6 ≤ M.1 48 22 then -104 else M.1 48 22 + 1) else -102))) ∧ mS (if ((0 ≤ q ∧ q < 3) ∧ (0 ≤ y ∧ y ≤ 99)) ∧ M.1 48 22 < 6 then mSeeM M k q y else M) U) := by
  obtain ⟨hpg, hv, hrw, hf, hg, hse, hbo, hst, hni⟩ := hM
  have hv0 : (M.1 48 3 = 0 ∧ M.1 48 4 = 0) ∨ (2 ≤ M.1 48 3 ∧ M.1 48 3 ≤ 4 ∧ 2 ≤ M.1 48 4 ∧ M.1 48 4 ≤ 6) := hv
  have rk : rg (k : Int) := rgm (by omega) (by omega)
  have hs1 := hse.1
  obtain ⟨s, es⟩ := Int.eq_ofNat_of_zero_le hs1.1
  refine Cn.of rfl (Nat.le_of_ble_eq_true rfl) (fun G C E => ?_)
  show G 0 [.ref 48, .int (zI (k : Int)), .int (zI q), .int (zI y)] [] M
  refine r_aload_n C rfl dX7_see_0 ?_
  refine r_iload_n C rfl dX7_see_1 ?_
  refine r_cVb C dX7_see_2 vw_X7_188 (c_isPerson M rk hv) (by decide) rfl ly_48 rfl rfl (Nat.le_of_ble_eq_true rfl) (fun h2 => ?_) (fun h2 => absurd (by omega) h2)
  refine r_if_ne C (tgt := 11) dX7_see_5 rfl (by first | assumption | exact rgm (by omega) (by omega)) (fun h5 => ?_) (fun h5 => absurd h5 (by decide))
  refine r_iload_n C rfl dX7_see_11 ?_
  refine r_i2l C dX7_see_12 ?_
  refine r_lconst C dX7_see_13 ?_
  refine r_ldc2 C dX7_see_14 kc_X7_231 ?_
  refine r_cSb C dX7_see_17 sw_X7_76 (c_inZ M (b := 0) (c := 2) rq rfl rfl) (by decide) rfl rfl (Nat.le_of_ble_eq_true rfl) (fun h17 => ?_) (fun h17 => ?_)
  · refine r_if_eq C (tgt := 35) dX7_see_20 rfl (by first | assumption | exact rgm (by omega) (by omega)) (fun h20 => absurd h20 (by decide)) (fun h20 => ?_)
    refine r_iload_n C rfl dX7_see_23 ?_
    refine r_i2l C dX7_see_24 ?_
    refine r_lconst C dX7_see_25 ?_
    refine r_ldc2 C dX7_see_26 kc_X7_271 ?_
    refine r_cSb C dX7_see_29 sw_X7_76 (c_inZ M (b := 0) (c := 99) ry rfl rfl) (by decide) rfl rfl (Nat.le_of_ble_eq_true rfl) (fun h29 => ?_) (fun h29 => ?_)
    · refine r_if_ne C (tgt := 38) dX7_see_32 rfl (by first | assumption | exact rgm (by omega) (by omega)) (fun h32 => ?_) (fun h32 => absurd h32 (by decide))
      refine r_aload_n C rfl dX7_see_38 ?_
      refine r_geti C dX7_see_39 fl_X7_127 ly_48 rfl ?_
      refine r_bipush C rfl dX7_see_42 ?_
      refine r_icmp_ne C (tgt := 50) dX7_see_44 rfl (by first | assumption | exact rgm (by omega) (by omega)) (by first | assumption | exact rgm (by omega) (by omega)) (fun h44 => ?_) (fun h44 => ?_)
      · refine r_aload_n C rfl dX7_see_50 ?_
        refine r_getr C dX7_see_51 fl_X7_43 ly_48 rfl ?_
        refine r_iconst C dX7_see_54 ?_
        refine r_aload_n C rfl dX7_see_55 ?_
        refine r_geti C dX7_see_56 fl_X7_127 ly_48 rfl ?_
        refine r_imul C dX7_see_59 ?_
        refine r_iload_n C rfl dX7_see_60 ?_
        refine r_iast C dX7_see_61 ly_60 (k := 3 * s) (by omega) (by omega) ?_
        refine r_aload_n C rfl dX7_see_62 ?_
        refine r_getr C dX7_see_63 fl_X7_43 ly_48 rfl ?_
        refine r_iconst C dX7_see_66 ?_
        refine r_aload_n C rfl dX7_see_67 ?_
        refine r_geti C dX7_see_68 fl_X7_127 ly_48 rfl ?_
        refine r_imul C dX7_see_71 ?_
        refine r_iconst C dX7_see_72 ?_
        refine r_iadd C dX7_see_73 ?_
        refine r_iload_n C rfl dX7_see_74 ?_
        refine r_iast C dX7_see_75 ly_60 (k := 3 * s + 1) (by rw [mU_ne (by decide)]; omega) (by omega) ?_
        refine r_aload_n C rfl dX7_see_76 ?_
        refine r_getr C dX7_see_77 fl_X7_43 ly_48 rfl ?_
        refine r_iconst C dX7_see_80 ?_
        refine r_aload_n C rfl dX7_see_81 ?_
        refine r_geti C dX7_see_82 fl_X7_127 ly_48 rfl ?_
        refine r_imul C dX7_see_85 ?_
        refine r_iconst C dX7_see_86 ?_
        refine r_iadd C dX7_see_87 ?_
        refine r_iload_n C rfl dX7_see_88 ?_
        refine r_iast C dX7_see_89 ly_60 (k := 3 * s + 2) (by rw [mU_ne (by decide), mU_ne (by decide)]; omega) (by omega) ?_
        refine r_aload_n C rfl dX7_see_90 ?_
        refine r_dup C rfl dX7_see_91 ?_
        refine r_geti C dX7_see_92 fl_X7_127 ly_48 rfl ?_
        refine r_iconst C dX7_see_95 ?_
        refine r_iadd C dX7_see_96 ?_
        refine r_put C dX7_see_97 fl_X7_127 rfl (Or.inl rfl) ly_48 rfl ?_
        refine r_aload_n C rfl dX7_see_100 ?_
        refine r_geti C dX7_see_101 fl_X7_127 ly_48 rfl ?_
        exact r_iret E dX7_see_104 ⟨by rw [if_pos (by omega), if_neg (by omega)]; simp [mU], by rw [if_pos (by omega)]; refine mS_eq ?_; unfold mSeeM; rw [show (M.1 48 22).toNat = s by omega]; simp [mU]⟩
      · refine r_bipush C rfl dX7_see_47 ?_
        exact r_iret E dX7_see_49 ⟨by rw [if_pos (by omega), if_pos (by omega)], by rw [if_neg (by omega)]; exact mS_rf⟩
    · refine r_if_ne C (tgt := 38) dX7_see_32 rfl (by first | assumption | exact rgm (by omega) (by omega)) (fun h32 => absurd h32 (by decide)) (fun h32 => ?_)
      refine r_bipush C rfl dX7_see_35 ?_
      exact r_iret E dX7_see_37 ⟨by rw [if_neg (by omega)], by rw [if_neg (by omega)]; exact mS_rf⟩
  · refine r_if_eq C (tgt := 35) dX7_see_20 rfl (by first | assumption | exact rgm (by omega) (by omega)) (fun h20 => ?_) (fun h20 => absurd h20 (by decide))
    refine r_bipush C rfl dX7_see_35 ?_
    exact r_iret E dX7_see_37 ⟨by rw [if_neg (by omega)], by rw [if_neg (by omega)]; exact mS_rf⟩
set_option maxRecDepth 10000 in
set_option maxHeartbeats 1000000 in
theorem c_m_see_no (M : Mm_) {a w y : Int} (ra : rg a) (ha : ¬ (0 ≤ a ∧ a < M.1 48 3)) (hM : oM M) : Cn 2 kX7_see [.ref 48, .int (zI a), .int (zI w), .int (zI y)] M (pS (-101) M) := by
  obtain ⟨hpg, hv, hrw, hf, hg, hse, hbo, hst, hni⟩ := hM
  have hv0 : (M.1 48 3 = 0 ∧ M.1 48 4 = 0) ∨ (2 ≤ M.1 48 3 ∧ M.1 48 3 ≤ 4 ∧ 2 ≤ M.1 48 4 ∧ M.1 48 4 ≤ 6) := hv
  refine Cn.of rfl (Nat.le_of_ble_eq_true rfl) (fun G C E => ?_)
  show G 0 [.ref 48, .int (zI a), .int (zI w), .int (zI y)] [] M
  refine r_aload_n C rfl dX7_see_0 ?_
  refine r_iload_n C rfl dX7_see_1 ?_
  refine r_cVb C dX7_see_2 vw_X7_188 (c_isPerson M ra hv) (by decide) rfl ly_48 rfl rfl (Nat.le_of_ble_eq_true rfl) (fun h2 => absurd h2 (by omega)) (fun h2 => ?_)
  refine r_if_ne C (tgt := 11) dX7_see_5 rfl (by first | assumption | exact rgm (by omega) (by omega)) (fun h5 => absurd h5 (by decide)) (fun h5 => ?_)
  refine r_bipush C rfl dX7_see_8 ?_
  exact r_iret E dX7_see_10 ⟨rfl, mS_rf⟩
set_option maxRecDepth 10000 in
set_option maxHeartbeats 1000000 in
theorem c_m_forget (M : Mm_) : Cn 0 kX7_forget [.ref 48] M (fun r U => r = some (.int (zI (M.1 48 22))) ∧ mS (mU M 48 22 0) U) := by
  refine Cn.of rfl (Nat.le_of_ble_eq_true rfl) (fun G C E => ?_)
  show G 0 [.ref 48, .null] [] M
  refine r_aload_n C rfl dX7_forget_0 ?_
  refine r_geti C dX7_forget_1 fl_X7_127 ly_48 rfl ?_
  refine r_istore_n C dX7_forget_4 1 rfl (by decide) rfl ?_
  dsimp only [List.set, Nat.reduceAdd]
  refine r_aload_n C rfl dX7_forget_5 ?_
  refine r_iconst C dX7_forget_6 ?_
  refine r_put C dX7_forget_7 fl_X7_127 rfl (Or.inl rfl) ly_48 rfl ?_
  refine r_iload_n C rfl dX7_forget_10 ?_
  exact r_iret E dX7_forget_11 ⟨rfl, mS_rf⟩
set_option maxRecDepth 10000 in
set_option maxHeartbeats 1000000 in
theorem c_drawM (T : Mm_) {a s : Int} (hs : T.1 48 25 = s) (h0 : 0 ≤ s) (h1 : s < 2147483648) (ha : 0 < a) (ha2 : a ≤ 4) : Cn 0 kX7_draw [.ref 48, .int (zI a)] T (pZ (nsd s / 65536 % a) (mU T 48 25 (nsd s))) := by
  refine Cn.of rfl (Nat.le_of_ble_eq_true rfl) (fun G C E => ?_)
  show G 0 [.ref 48, .int (zI a)] [] T
  have hns := nsd_b s
  have hrd := Int.ediv_nonneg hns.1 (show (0 : Int) ≤ 65536 by decide)
  have e5 : T.1 48 25 = s := hs
  have e6 : (mU T 48 25 (nsd s)).1 48 25 = nsd s := by simp [mU]
  refine r_aload_n C rfl dX7_draw_0 ?_
  refine r_ldc2 C dX7_draw_1 kc_X7_273 ?_
  refine r_aload_n C rfl dX7_draw_4 ?_
  refine r_geti C dX7_draw_5 fl_X7_275 ly_48 rfl ?_
  rw [e5]
  refine r_i2l C dX7_draw_8 ?_
  refine r_lmul C dX7_draw_9 ?_
  refine r_ldc2 C dX7_draw_10 kc_X7_278 ?_
  refine r_ladd C dX7_draw_13 ?_
  refine r_ldc2 C dX7_draw_14 kc_X7_280 ?_
  refine r_land C dX7_draw_17 ?_
  refine r_l2i C dX7_draw_18 ?_
  rw [lcg2 h0 h1]
  refine r_put C dX7_draw_19 fl_X7_275 rfl (Or.inl rfl) ly_48 rfl ?_
  refine r_aload_n C rfl dX7_draw_22 ?_
  refine r_geti C dX7_draw_23 fl_X7_275 ly_48 rfl ?_
  rw [e6]
  refine r_ldcw C (z := 65536) dX7_draw_26 kc_X7_282 rfl ?_
  refine r_idiv C (by omega) (by omega) (by first | assumption | exact rgm (by omega) (by omega)) (by first | assumption | exact rgm (by omega) (by omega)) dX7_draw_29 ?_
  refine r_iload_n C rfl dX7_draw_30 ?_
  refine r_irem C (by omega) (by omega) (by first | assumption | exact rgm (by omega) (by omega)) (by first | assumption | exact rgm (by omega) (by omega)) dX7_draw_31 ?_
  exact r_iret E dX7_draw_32 ⟨rfl, rfl⟩
set_option maxRecDepth 10000 in
set_option maxHeartbeats 1000000 in
theorem c_sumPeople (T : Mm_) {a : Nat} (ha : lyT[a]? = some (0, 4, [])) (h0 : 0 ≤ T.1 48 3 ∧ T.1 48 3 ≤ 4) : Cn 0 kX7_sumPeople [.ref 48, .ref a] T (pZ (sm (T.1 a) (T.1 48 3).toNat) T) := by
  obtain ⟨n, hn⟩ : ∃ n : Nat, T.1 48 3 = n := ⟨(T.1 48 3).toNat, by omega⟩
  rw [show (T.1 48 3).toNat = n by omega]
  refine Cn.of rfl (Nat.le_of_ble_eq_true rfl) (fun G C E => ?_)
  show G 0 [.ref 48, .ref a, .null, .null] [] T
  have lp : ∀ i : Nat, i ≤ n → ∀ s z : Int, s = sm (T.1 a) i → z = i → G 4 [.ref 48, .ref a, .int (zI s), .int (zI z)] [] T := by
    refine lpN n ?_ ?_
    · intro s z hs hz 
      refine r_iload_n C rfl dX7_sumPeople_4 ?_
      refine r_aload_n C rfl dX7_sumPeople_5 ?_
      refine r_geti C dX7_sumPeople_6 fl_X7_109 ly_48 rfl ?_
      refine r_icmp_ge C (tgt := 24) dX7_sumPeople_9 rfl (by first | assumption | exact rgm (by omega) (by omega)) (by first | assumption | exact rgm (by omega) (by omega)) (fun h9 => ?_) (fun h9 => absurd h9 (by omega))
      refine r_iload_n C rfl dX7_sumPeople_24 ?_
      exact r_iret E dX7_sumPeople_25 (pZ_of hs)
    · intro i hi ih s z hs hz 
      refine r_iload_n C rfl dX7_sumPeople_4 ?_
      refine r_aload_n C rfl dX7_sumPeople_5 ?_
      refine r_geti C dX7_sumPeople_6 fl_X7_109 ly_48 rfl ?_
      refine r_icmp_ge C (tgt := 24) dX7_sumPeople_9 rfl (by first | assumption | exact rgm (by omega) (by omega)) (by first | assumption | exact rgm (by omega) (by omega)) (fun h9 => absurd h9 (by omega)) (fun h9 => ?_)
      refine r_iload_n C rfl dX7_sumPeople_12 ?_
      refine r_aload_n C rfl dX7_sumPeople_13 ?_
      refine r_iload_n C rfl dX7_sumPeople_14 ?_
      refine r_iald C dX7_sumPeople_15 ha hz (by omega) ?_
      refine r_iadd C dX7_sumPeople_16 ?_
      refine r_istore_n C dX7_sumPeople_17 2 rfl (by decide) rfl ?_
      dsimp only [List.set, Nat.reduceAdd]
      refine r_iinc C dX7_sumPeople_18 rfl (by decide) rfl ?_
      dsimp only [List.set, Nat.reduceAdd]
      refine r_goto C (tgt := 4) dX7_sumPeople_21 rfl ?_
      exact ih _ _ (by rw [hs]; rfl) (by omega)
  refine r_iconst C dX7_sumPeople_0 ?_
  refine r_istore_n C dX7_sumPeople_1 2 rfl (by decide) rfl ?_
  dsimp only [List.set, Nat.reduceAdd]
  refine r_iconst C dX7_sumPeople_2 ?_
  refine r_istore_n C dX7_sumPeople_3 3 rfl (by decide) rfl ?_
  dsimp only [List.set, Nat.reduceAdd]
  exact lp 0 (Nat.zero_le _) _ _ rfl rfl
set_option maxRecDepth 10000 in
set_option maxHeartbeats 1000000 in
theorem c_m_weeks (M : Mm_) {z s w : Int} (rz : rg z) (rs : rg s) (rw_ : rg w) (hM : oM M) : Cn 4 kX7_weeks [.ref 48, .int (zI z), .int (zI s), .int (zI w)] M (fun r U => r = some (.int (zI (if ((1 ≤ z ∧ z ≤ 60) ∧ 0 ≤ s ∧ (0 ≤ w ∧ w ≤ 2)) then (if 0 < M.1 48 3 then (if w = 0 then (wkNM M z.toNat (M.1 52, 0, s)).2.1 else if w = 1 then sm (wkNM M z.toNat (M.1 52, 0, s)).1 (M.1 48 3).toNat else (wkNM M z.toNat (M.1 52, 0, s)).2.2) else -103) else -102))) ∧ mS (M) U) := by
  have hM0 := hM
  obtain ⟨hpg, hv, hrw, hf, hg, hse, hbo, hst, hni⟩ := hM
  have hv0 : (M.1 48 3 = 0 ∧ M.1 48 4 = 0) ∨ (2 ≤ M.1 48 3 ∧ M.1 48 3 ≤ 4 ∧ 2 ≤ M.1 48 4 ∧ M.1 48 4 ≤ 6) := hv
  refine Cn.of rfl (Nat.le_of_ble_eq_true rfl) (fun G C E => ?_)
  show G 0 [.ref 48, .int (zI z), .int (zI s), .int (zI w), .null, .null, .null, .null] [] M
  have lp : ((1 ≤ z ∧ z ≤ 60) ∧ 0 ≤ s ∧ (0 ≤ w ∧ w ≤ 2)) → 0 < M.1 48 3 → ∀ i : Nat, i ≤ z.toNat → ∀ (T : Mm_) (g : Nat → Int) (sm_ sd y : Int) (v6 v7 : Value), mS M T → T.1 57 = g → g99 g → T.1 48 25 = sd → (0 ≤ sd ∧ sd < 2147483648) → wkNM M i (M.1 52, 0, s) = (g, sm_, sd) → y = i → G 63 [.ref 48, .int (zI z), .int (zI s), .int (zI w), .int (zI sm_), .int (zI y), v6, v7] [] T := by
    intro hc hp0
    refine lpN z.toNat ?_ ?_
    · intro T g sm_ sd y v6 v7 hS hgT hgb hsd hsb hwk hy
      have e3 : T.1 48 3 = M.1 48 3 := hS.2.1 3 (by omega) (by omega)
      refine r_iload C rfl dX7_weeks_63 ?_
      refine r_iload_n C rfl dX7_weeks_65 ?_
      refine r_icmp_ge C (tgt := 142) dX7_weeks_66 rfl (by first | assumption | exact rgm (by omega) (by omega)) (by first | assumption | exact rgm (by omega) (by omega)) (fun h66 => ?_) (fun h66 => absurd h66 (by omega))
      refine r_iload_n C rfl dX7_weeks_142 ?_
      refine r_if_ne C (tgt := 151) dX7_weeks_143 rfl (by first | assumption | exact rgm (by omega) (by omega)) (fun h143 => ?_) (fun h143 => ?_)
      · refine r_iload_n C rfl dX7_weeks_151 ?_
        refine r_iconst C dX7_weeks_152 ?_
        refine r_icmp_ne C (tgt := 167) dX7_weeks_153 rfl (by first | assumption | exact rgm (by omega) (by omega)) (by first | assumption | exact rgm (by omega) (by omega)) (fun h153 => ?_) (fun h153 => ?_)
        · refine r_aload_n C rfl dX7_weeks_167 ?_
          refine r_geti C dX7_weeks_168 fl_X7_275 ly_48 rfl ?_
          try rw [hsd]
          exact r_iret E dX7_weeks_171 ⟨by rw [if_pos hc, if_pos hp0, if_neg h143, if_neg h153, hwk], hS⟩
        · refine r_aload_n C rfl dX7_weeks_156 ?_
          refine r_aload_n C rfl dX7_weeks_157 ?_
          refine r_getr C dX7_weeks_158 fl_X7_34 ly_48 rfl ?_
          refine r_cVz C dX7_weeks_161 vw_X7_288 (c_sumPeople T ly_57 (by omega)) (by decide) rfl ly_48 rfl rfl (Nat.le_of_ble_eq_true rfl) ?_
          rw [hgT, e3]
          refine r_goto C (tgt := 171) dX7_weeks_164 rfl ?_
          try rw [hsd]
          exact r_iret E dX7_weeks_171 ⟨by rw [if_pos hc, if_pos hp0, if_neg h143, if_pos h153, hwk], hS⟩
      · refine r_iload C rfl dX7_weeks_146 ?_
        refine r_goto C (tgt := 171) dX7_weeks_148 rfl ?_
        try rw [hsd]
        exact r_iret E dX7_weeks_171 ⟨by rw [if_pos hc, if_pos hp0, if_pos h143, hwk], hS⟩
    · intro i hi ih T g sm_ sd y v6 v7 hS hgT hgb hsd hsb hwk hy
      have e3 : T.1 48 3 = M.1 48 3 := hS.2.1 3 (by omega) (by omega)
      have hs0 := hsb.1
      have hs1 := hsb.2
      have hn1 := nsd_b sd
      have hn2 := nsd_b (nsd sd)
      obtain ⟨pp, epp⟩ : ∃ pp, nsd sd / 65536 % (M.1 48 3) = pp := ⟨_, rfl⟩
      obtain ⟨hh, ehh⟩ : ∃ hh, nsd (nsd sd) / 65536 % 4 = hh := ⟨_, rfl⟩
      have hpp : 0 ≤ pp ∧ pp < M.1 48 3 := by rw [← epp]; exact ⟨Int.emod_nonneg _ (by omega), Int.emod_lt_of_pos _ hp0⟩
      have hhh : 0 ≤ hh ∧ hh < 4 := by rw [← ehh]; exact ⟨Int.emod_nonneg _ (by decide), Int.emod_lt_of_pos _ (by decide)⟩
      have hS2 : mS M (mU (mU T 48 25 (nsd sd)) 48 25 (nsd (nsd sd))) := mS_tr (mS_tr hS (mS_48 (by decide))) (mS_48 (by decide))
      have hsl := sl1_99 hrw (q := if hh = 3 then -1 else 3 * pp + hh) (by split <;> omega) hgb
      have hWb := WDc_b (M.1 53) (FM M (sl1 (grM M) (if hh = 3 then -1 else 3 * pp + hh) g) false) (M.1 48 4).toNat (by omega)
      refine r_iload C rfl dX7_weeks_63 ?_
      refine r_iload_n C rfl dX7_weeks_65 ?_
      refine r_icmp_ge C (tgt := 142) dX7_weeks_66 rfl (by first | assumption | exact rgm (by omega) (by omega)) (by first | assumption | exact rgm (by omega) (by omega)) (fun h66 => absurd h66 (by omega)) (fun h66 => ?_)
      refine r_aload_n C rfl dX7_weeks_69 ?_
      refine r_aload_n C rfl dX7_weeks_70 ?_
      refine r_geti C dX7_weeks_71 fl_X7_109 ly_48 rfl ?_
      refine r_cVw C dX7_weeks_74 vw_X7_285 (c_drawM T hsd hs0 hs1 (by omega) (by omega)) (by decide) rfl ly_48 rfl rfl (Nat.le_of_ble_eq_true rfl) ?_
      rw [show T.1 48 3 = M.1 48 3 from e3, epp]
      refine r_istore C dX7_weeks_77 6 rfl (by decide) rfl ?_
      dsimp only [List.set, Nat.reduceAdd]
      refine r_aload_n C rfl dX7_weeks_79 ?_
      refine r_iconst C dX7_weeks_80 ?_
      refine r_cVw C dX7_weeks_81 vw_X7_285 (c_drawM (mU T 48 25 (nsd sd)) (by simp [mU]) hn1.1 hn1.2 (by decide) (by decide)) (by decide) rfl ly_48 rfl rfl (Nat.le_of_ble_eq_true rfl) ?_
      rw [ehh]
      refine r_istore C dX7_weeks_84 7 rfl (by decide) rfl ?_
      dsimp only [List.set, Nat.reduceAdd]
      refine r_aload_n C rfl dX7_weeks_86 ?_
      refine r_aload_n C rfl dX7_weeks_87 ?_
      refine r_getr C dX7_weeks_88 fl_X7_34 ly_48 rfl ?_
      refine r_iload C rfl dX7_weeks_91 ?_
      refine r_iconst C dX7_weeks_93 ?_
      refine r_icmp_ne C (tgt := 101) dX7_weeks_94 rfl (by first | assumption | exact rgm (by omega) (by omega)) (by first | assumption | exact rgm (by omega) (by omega)) (fun h94 => ?_) (fun h94 => ?_)
      · refine r_iconst C dX7_weeks_101 ?_
        refine r_iload C rfl dX7_weeks_102 ?_
        refine r_imul C dX7_weeks_104 ?_
        refine r_iload C rfl dX7_weeks_105 ?_
        refine r_iadd C dX7_weeks_107 ?_
        refine r_cVv C dX7_weeks_108 vw_X7_209 (c_slightW (M := M) (g := g) (q := (3 * pp + hh)) hS2 (by rw [mU_ne (by decide), mU_ne (by decide)]; exact hgT) (by omega) (by omega) hrw hgb) (by decide) rfl ly_48 rfl rfl (Nat.le_of_ble_eq_true rfl) ?_
        rw [show sl1 (grM M) ((3 * pp + hh)) g = (sl1 (grM M) (if hh = 3 then -1 else 3 * pp + hh) g) by rw [if_neg h94]]
        refine r_iload C rfl dX7_weeks_111 ?_
        refine r_aload_n C rfl dX7_weeks_113 ?_
        refine r_aload_n C rfl dX7_weeks_114 ?_
        refine r_getr C dX7_weeks_115 fl_X7_34 ly_48 rfl ?_
        refine r_iconst C dX7_weeks_118 ?_
        refine r_cVz C dX7_weeks_119 vw_X7_162 (c_wouldW0 (M := M) (g := (sl1 (grM M) (if hh = 3 then -1 else 3 * pp + hh) g)) (mS_R2 hS2 (by decide)) (by rw [mR_eq]) hv hf hsl) (by decide) rfl ly_48 rfl rfl (Nat.le_of_ble_eq_true rfl) ?_
        refine r_cSz C dX7_weeks_122 sw_X7_169 (c_ones _ hWb.1 (by omega)) (by decide) rfl rfl (Nat.le_of_ble_eq_true rfl) ?_
        refine r_iadd C dX7_weeks_125 ?_
        refine r_istore C dX7_weeks_126 4 rfl (by decide) rfl ?_
        dsimp only [List.set, Nat.reduceAdd]
        refine r_aload_n C rfl dX7_weeks_128 ?_
        refine r_aload_n C rfl dX7_weeks_129 ?_
        refine r_getr C dX7_weeks_130 fl_X7_34 ly_48 rfl ?_
        refine r_cVv C dX7_weeks_133 vw_X7_236 (c_nightW (M := M) (g := (sl1 (grM M) (if hh = 3 then -1 else 3 * pp + hh) g)) (mS_R2 hS2 (by decide)) (by rw [mR_eq]) hv hrw hsl) (by decide) rfl ly_48 rfl rfl (Nat.le_of_ble_eq_true rfl) ?_
        rw [mR_mR]
        refine r_iinc C dX7_weeks_136 rfl (by decide) rfl ?_
        dsimp only [List.set, Nat.reduceAdd]
        refine r_goto C (tgt := 63) dX7_weeks_139 rfl ?_
        refine ih _ _ _ _ _ _ _ (mS_R2 hS2 (by decide)) (by rw [mR_eq]) (nt_99 hsl) (by rw [mR_ne (by decide)]; simp [mU]) hn2 ?_ (by omega)
        show wkSM M (wkNM M i (M.1 52, 0, s)) = _
        rw [hwk]
        unfold wkSM
        simp only [epp, ehh]
      · refine r_iconst C dX7_weeks_97 ?_
        refine r_goto C (tgt := 108) dX7_weeks_98 rfl ?_
        refine r_cVv C dX7_weeks_108 vw_X7_209 (c_slightW (M := M) (g := g) (q := -1) hS2 (by rw [mU_ne (by decide), mU_ne (by decide)]; exact hgT) (by omega) (by omega) hrw hgb) (by decide) rfl ly_48 rfl rfl (Nat.le_of_ble_eq_true rfl) ?_
        rw [show sl1 (grM M) (-1) g = (sl1 (grM M) (if hh = 3 then -1 else 3 * pp + hh) g) by rw [if_pos h94]]
        refine r_iload C rfl dX7_weeks_111 ?_
        refine r_aload_n C rfl dX7_weeks_113 ?_
        refine r_aload_n C rfl dX7_weeks_114 ?_
        refine r_getr C dX7_weeks_115 fl_X7_34 ly_48 rfl ?_
        refine r_iconst C dX7_weeks_118 ?_
        refine r_cVz C dX7_weeks_119 vw_X7_162 (c_wouldW0 (M := M) (g := (sl1 (grM M) (if hh = 3 then -1 else 3 * pp + hh) g)) (mS_R2 hS2 (by decide)) (by rw [mR_eq]) hv hf hsl) (by decide) rfl ly_48 rfl rfl (Nat.le_of_ble_eq_true rfl) ?_
        refine r_cSz C dX7_weeks_122 sw_X7_169 (c_ones _ hWb.1 (by omega)) (by decide) rfl rfl (Nat.le_of_ble_eq_true rfl) ?_
        refine r_iadd C dX7_weeks_125 ?_
        refine r_istore C dX7_weeks_126 4 rfl (by decide) rfl ?_
        dsimp only [List.set, Nat.reduceAdd]
        refine r_aload_n C rfl dX7_weeks_128 ?_
        refine r_aload_n C rfl dX7_weeks_129 ?_
        refine r_getr C dX7_weeks_130 fl_X7_34 ly_48 rfl ?_
        refine r_cVv C dX7_weeks_133 vw_X7_236 (c_nightW (M := M) (g := (sl1 (grM M) (if hh = 3 then -1 else 3 * pp + hh) g)) (mS_R2 hS2 (by decide)) (by rw [mR_eq]) hv hrw hsl) (by decide) rfl ly_48 rfl rfl (Nat.le_of_ble_eq_true rfl) ?_
        rw [mR_mR]
        refine r_iinc C dX7_weeks_136 rfl (by decide) rfl ?_
        dsimp only [List.set, Nat.reduceAdd]
        refine r_goto C (tgt := 63) dX7_weeks_139 rfl ?_
        refine ih _ _ _ _ _ _ _ (mS_R2 hS2 (by decide)) (by rw [mR_eq]) (nt_99 hsl) (by rw [mR_ne (by decide)]; simp [mU]) hn2 ?_ (by omega)
        show wkSM M (wkNM M i (M.1 52, 0, s)) = _
        rw [hwk]
        unfold wkSM
        simp only [epp, ehh]
  refine r_iload_n C rfl dX7_weeks_0 ?_
  refine r_i2l C dX7_weeks_1 ?_
  refine r_lconst C dX7_weeks_2 ?_
  refine r_ldc2 C dX7_weeks_3 kc_X7_283 ?_
  refine r_cSb C dX7_weeks_6 sw_X7_76 (c_inZ M (b := 1) (c := 60) rz rfl rfl) (by decide) rfl rfl (Nat.le_of_ble_eq_true rfl) (fun h6 => ?_) (fun h6 => ?_)
  · refine r_if_eq C (tgt := 28) dX7_weeks_9 rfl (by first | assumption | exact rgm (by omega) (by omega)) (fun h9 => absurd h9 (by decide)) (fun h9 => ?_)
    refine r_iload_n C rfl dX7_weeks_12 ?_
    refine r_if_lt C (tgt := 28) dX7_weeks_13 rfl (by first | assumption | exact rgm (by omega) (by omega)) (fun h13 => ?_) (fun h13 => ?_)
    · refine r_bipush C rfl dX7_weeks_28 ?_
      exact r_iret E dX7_weeks_30 ⟨by rw [if_neg (by omega)], mS_rf⟩
    · refine r_iload_n C rfl dX7_weeks_16 ?_
      refine r_i2l C dX7_weeks_17 ?_
      refine r_lconst C dX7_weeks_18 ?_
      refine r_ldc2 C dX7_weeks_19 kc_X7_231 ?_
      refine r_cSb C dX7_weeks_22 sw_X7_76 (c_inZ M (b := 0) (c := 2) rw_ rfl rfl) (by decide) rfl rfl (Nat.le_of_ble_eq_true rfl) (fun h22 => ?_) (fun h22 => ?_)
      · refine r_if_ne C (tgt := 31) dX7_weeks_25 rfl (by first | assumption | exact rgm (by omega) (by omega)) (fun h25 => ?_) (fun h25 => absurd h25 (by decide))
        refine r_aload_n C rfl dX7_weeks_31 ?_
        refine r_cVb C dX7_weeks_32 vw_X7_133 (c_lacks M hv) (by decide) rfl ly_48 rfl rfl (Nat.le_of_ble_eq_true rfl) (fun h32 => ?_) (fun h32 => ?_)
        · refine r_if_eq C (tgt := 41) dX7_weeks_35 rfl (by first | assumption | exact rgm (by omega) (by omega)) (fun h35 => absurd h35 (by decide)) (fun h35 => ?_)
          refine r_bipush C rfl dX7_weeks_38 ?_
          exact r_iret E dX7_weeks_40 ⟨by rw [if_pos (by omega), if_neg (by omega)], mS_rf⟩
        · refine r_if_eq C (tgt := 41) dX7_weeks_35 rfl (by first | assumption | exact rgm (by omega) (by omega)) (fun h35 => ?_) (fun h35 => absurd h35 (by decide))
          refine r_aload_n C rfl dX7_weeks_41 ?_
          refine r_getr C dX7_weeks_42 fl_X7_19 ly_48 rfl ?_
          refine r_aload_n C rfl dX7_weeks_45 ?_
          refine r_getr C dX7_weeks_46 fl_X7_34 ly_48 rfl ?_
          refine r_cSv C dX7_weeks_49 sw_X7_205 (c_copyW mS_rf) (by decide) rfl rfl (Nat.le_of_ble_eq_true rfl) ?_
          refine r_aload_n C rfl dX7_weeks_52 ?_
          refine r_iload_n C rfl dX7_weeks_53 ?_
          refine r_put C dX7_weeks_54 fl_X7_275 rfl (Or.inl rfl) ly_48 rfl ?_
          refine r_iconst C dX7_weeks_57 ?_
          refine r_istore C dX7_weeks_58 4 rfl (by decide) rfl ?_
          dsimp only [List.set, Nat.reduceAdd]
          refine r_iconst C dX7_weeks_60 ?_
          refine r_istore C dX7_weeks_61 5 rfl (by decide) rfl ?_
          dsimp only [List.set, Nat.reduceAdd]
          exact lp (by omega) (by omega) 0 (Nat.zero_le _) _ (M.1 52) _ s _ _ _ (mS_tr (mS_R (by decide)) (mS_48 (by decide))) (by rw [mU_ne (by decide), mR_eq]) hg (by simp [mU]) ⟨by omega, rs.2⟩ rfl rfl
      · refine r_if_ne C (tgt := 31) dX7_weeks_25 rfl (by first | assumption | exact rgm (by omega) (by omega)) (fun h25 => absurd h25 (by decide)) (fun h25 => ?_)
        refine r_bipush C rfl dX7_weeks_28 ?_
        exact r_iret E dX7_weeks_30 ⟨by rw [if_neg (by omega)], mS_rf⟩
  · refine r_if_eq C (tgt := 28) dX7_weeks_9 rfl (by first | assumption | exact rgm (by omega) (by omega)) (fun h9 => ?_) (fun h9 => absurd h9 (by decide))
    refine r_bipush C rfl dX7_weeks_28 ?_
    exact r_iret E dX7_weeks_30 ⟨by rw [if_neg (by omega)], mS_rf⟩
