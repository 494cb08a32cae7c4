
def oMp (M : Mm_) : Prop := (0 ≤ M.1 48 1 ∧ M.1 48 1 ≤ 24) ∧ ∀ i, i < 24 → 0 ≤ M.1 49 i ∧ M.1 49 i ≤ 126
def mLetM (M : Mm_) (a : Int) : Mm_ := mU (mU M 49 (M.1 48 1).toNat a) 48 1 (M.1 48 1 + 1)

set_option maxRecDepth 10000 in
set_option maxHeartbeats 1000000 in
theorem c_m_letter (M : Mm_) {a : Int} (ra : rg a) (hp : oMp M) : Cn 1 kX7_letter [.ref 48, .int (zI a)] M (fun r U => r = some (.int (zI (if a < 1 ∨ 126 < a then -102 else if 24 ≤ M.1 48 1 then -104 else M.1 48 1 + 1))) ∧ U = if (1 ≤ a ∧ a ≤ 126) ∧ M.1 48 1 < 24 then mLetM M a else M) := by
  have hp1 := hp.1
  refine Cn.of rfl (Nat.le_of_ble_eq_true rfl) (fun G C E => ?_)
  show G 0 [.ref 48, .int (zI a)] [] M
  refine r_iload_n C rfl dX7_letter_0 ?_
  refine r_i2l C dX7_letter_1 ?_
  refine r_lconst C dX7_letter_2 ?_
  refine r_ldc2 C dX7_letter_3 kc_X7_74 ?_
  refine r_cSb C dX7_letter_6 sw_X7_76 (c_inZ M (b := 1) (c := 126) ra rfl rfl) (by decide) rfl rfl (Nat.le_of_ble_eq_true rfl) (fun h6 => ?_) (fun h6 => ?_)
  · refine r_if_ne C (tgt := 15) dX7_letter_9 rfl (by first | assumption | exact rgm (by omega) (by omega)) (fun h9 => ?_) (fun h9 => absurd h9 (by decide))
    refine r_aload_n C rfl dX7_letter_15 ?_
    refine r_geti C dX7_letter_16 fl_X7_80 ly_48 rfl ?_
    refine r_bipush C rfl dX7_letter_19 ?_
    refine r_icmp_ne C (tgt := 27) dX7_letter_21 rfl (by first | assumption | exact rgm (by omega) (by omega)) (by first | assumption | exact rgm (by omega) (by omega)) (fun h21 => ?_) (fun h21 => ?_)
    · refine r_aload_n C rfl dX7_letter_27 ?_
      refine r_getr C dX7_letter_28 fl_X7_7 ly_48 rfl ?_
      refine r_aload_n C rfl dX7_letter_31 ?_
      refine r_geti C dX7_letter_32 fl_X7_80 ly_48 rfl ?_
      refine r_iload_n C rfl dX7_letter_35 ?_
      refine r_iast C dX7_letter_36 ly_49 (k := (M.1 48 1).toNat) (by omega) (by omega) ?_
      refine r_aload_n C rfl dX7_letter_37 ?_
      refine r_dup C rfl dX7_letter_38 ?_
      refine r_geti C dX7_letter_39 fl_X7_80 ly_48 rfl ?_
      refine r_iconst C dX7_letter_42 ?_
      refine r_iadd C dX7_letter_43 ?_
      refine r_put C dX7_letter_44 fl_X7_80 rfl (Or.inl rfl) ly_48 rfl ?_
      refine r_aload_n C rfl dX7_letter_47 ?_
      refine r_geti C dX7_letter_48 fl_X7_80 ly_48 rfl ?_
      exact r_iret E dX7_letter_51 ⟨by rw [if_neg (by omega), if_neg (by omega)]; simp [mU], by rw [if_pos (by omega)]; unfold mLetM; simp [mU]⟩
    · refine r_bipush C rfl dX7_letter_24 ?_
      exact r_iret E dX7_letter_26 ⟨by rw [if_neg (by omega), if_pos (by omega)], by rw [if_neg (by omega)]⟩
  · refine r_if_ne C (tgt := 15) dX7_letter_9 rfl (by first | assumption | exact rgm (by omega) (by omega)) (fun h9 => absurd h9 (by decide)) (fun h9 => ?_)
    refine r_bipush C rfl dX7_letter_12 ?_
    exact r_iret E dX7_letter_14 ⟨by rw [if_pos (by omega)], by rw [if_neg (by omega)]⟩
set_option maxRecDepth 10000 in
set_option maxHeartbeats 1000000 in
theorem c_m_blank (M : Mm_) : Cn 0 kX7_blank [.ref 48] M (pZ (M.1 48 1) (mU M 48 1 0)) := by
  refine Cn.of rfl (Nat.le_of_ble_eq_true rfl) (fun G C E => ?_)
  show G 0 [.ref 48, .null] [] M
  refine r_aload_n C rfl dX7_blank_0 ?_
  refine r_geti C dX7_blank_1 fl_X7_80 ly_48 rfl ?_
  refine r_istore_n C dX7_blank_4 1 rfl (by decide) rfl ?_
  dsimp only [List.set, Nat.reduceAdd]
  refine r_aload_n C rfl dX7_blank_5 ?_
  refine r_iconst C dX7_blank_6 ?_
  refine r_put C dX7_blank_7 fl_X7_80 rfl (Or.inl rfl) ly_48 rfl ?_
  refine r_iload_n C rfl dX7_blank_10 ?_
  exact r_iret E dX7_blank_11 ⟨rfl, rfl⟩
set_option maxRecDepth 10000 in
set_option maxHeartbeats 1000000 in
theorem c_isPersonLetter (T : Mm_) {z : Int} {i : Nat} (hz : z = i) (hi : i < 24) (hp : ∀ i, i < 24 → 0 ≤ T.1 49 i ∧ T.1 49 i ≤ 126) : Cn 1 kX7_isPersonLetter [.ref 48, .int (zI z)] T (pB (okP (T.1 49) i = true) T) := by
  refine Cn.of rfl (Nat.le_of_ble_eq_true rfl) (fun G C E => ?_)
  show G 0 [.ref 48, .int (zI z), .null] [] T
  have hc := hp i hi
  have hix := ixF_b (T.1 49 i)
  refine r_aload_n C rfl dX7_isPersonLetter_0 ?_
  refine r_getr C dX7_isPersonLetter_1 fl_X7_7 ly_48 rfl ?_
  refine r_iload_n C rfl dX7_isPersonLetter_4 ?_
  refine r_iald C dX7_isPersonLetter_5 ly_49 hz hi ?_
  refine r_istore_n C dX7_isPersonLetter_6 2 rfl (by decide) rfl ?_
  dsimp only [List.set, Nat.reduceAdd]
  refine r_iload_n C rfl dX7_isPersonLetter_7 ?_
  refine r_iconst C dX7_isPersonLetter_8 ?_
  refine r_irem C (by omega) (by omega) (by first | assumption | exact rgm (by omega) (by omega)) (by first | assumption | exact rgm (by omega) (by omega)) dX7_isPersonLetter_9 ?_
  by_cases hout : z % 4 < 0 ∨ 2 < z % 4
  · refine r_tout C (tgt := 74) dX7_isPersonLetter_10 (by first | assumption | exact rgm (by omega) (by omega)) hout rfl ?_
    refine r_iload_n C rfl dX7_isPersonLetter_74 ?_
    refine r_bipush C rfl dX7_isPersonLetter_75 ?_
    refine r_icmp_ne C (tgt := 86) dX7_isPersonLetter_77 rfl (by first | assumption | exact rgm (by omega) (by omega)) (by first | assumption | exact rgm (by omega) (by omega)) (fun h77 => ?_) (fun h77 => ?_)
    · refine r_iload_n C rfl dX7_isPersonLetter_86 ?_
      refine r_bipush C rfl dX7_isPersonLetter_87 ?_
      refine r_icmp_ne C (tgt := 101) dX7_isPersonLetter_89 rfl (by first | assumption | exact rgm (by omega) (by omega)) (by first | assumption | exact rgm (by omega) (by omega)) (fun h89 => ?_) (fun h89 => ?_)
      · refine r_iconst C dX7_isPersonLetter_101 ?_
        exact r_zret E dX7_isPersonLetter_102 (by decide) (pB_f (by unfold okP; rw [if_neg (by omega), if_neg (by omega), if_neg (by omega)]; simp only [decide_eq_true_eq]; omega))
      · refine r_iload_n C rfl dX7_isPersonLetter_92 ?_
        refine r_iconst C dX7_isPersonLetter_93 ?_
        refine r_icmp_le C (tgt := 101) dX7_isPersonLetter_94 rfl (by first | assumption | exact rgm (by omega) (by omega)) (by first | assumption | exact rgm (by omega) (by omega)) (fun h94 => ?_) (fun h94 => ?_)
        · refine r_iconst C dX7_isPersonLetter_101 ?_
          exact r_zret E dX7_isPersonLetter_102 (by decide) (pB_f (by unfold okP; rw [if_neg (by omega), if_neg (by omega), if_neg (by omega)]; simp only [decide_eq_true_eq]; omega))
        · refine r_iconst C dX7_isPersonLetter_97 ?_
          refine r_goto C (tgt := 102) dX7_isPersonLetter_98 rfl ?_
          exact r_zret E dX7_isPersonLetter_102 (by decide) (pB_t (by unfold okP; rw [if_neg (by omega), if_neg (by omega), if_neg (by omega)]; simp only [decide_eq_true_eq]; omega))
    · refine r_iload_n C rfl dX7_isPersonLetter_80 ?_
      refine r_bipush C rfl dX7_isPersonLetter_81 ?_
      refine r_icmp_lt C (tgt := 97) dX7_isPersonLetter_83 rfl (by first | assumption | exact rgm (by omega) (by omega)) (by first | assumption | exact rgm (by omega) (by omega)) (fun h83 => ?_) (fun h83 => ?_)
      · refine r_iconst C dX7_isPersonLetter_97 ?_
        refine r_goto C (tgt := 102) dX7_isPersonLetter_98 rfl ?_
        exact r_zret E dX7_isPersonLetter_102 (by decide) (pB_t (by unfold okP; rw [if_neg (by omega), if_neg (by omega), if_neg (by omega)]; simp only [decide_eq_true_eq]; omega))
      · refine r_iload_n C rfl dX7_isPersonLetter_86 ?_
        refine r_bipush C rfl dX7_isPersonLetter_87 ?_
        refine r_icmp_ne C (tgt := 101) dX7_isPersonLetter_89 rfl (by first | assumption | exact rgm (by omega) (by omega)) (by first | assumption | exact rgm (by omega) (by omega)) (fun h89 => ?_) (fun h89 => ?_)
        · refine r_iconst C dX7_isPersonLetter_101 ?_
          exact r_zret E dX7_isPersonLetter_102 (by decide) (pB_f (by unfold okP; rw [if_neg (by omega), if_neg (by omega), if_neg (by omega)]; simp only [decide_eq_true_eq]; omega))
        · refine r_iload_n C rfl dX7_isPersonLetter_92 ?_
          refine r_iconst C dX7_isPersonLetter_93 ?_
          refine r_icmp_le C (tgt := 101) dX7_isPersonLetter_94 rfl (by first | assumption | exact rgm (by omega) (by omega)) (by first | assumption | exact rgm (by omega) (by omega)) (fun h94 => ?_) (fun h94 => ?_)
          · refine r_iconst C dX7_isPersonLetter_101 ?_
            exact r_zret E dX7_isPersonLetter_102 (by decide) (pB_f (by unfold okP; rw [if_neg (by omega), if_neg (by omega), if_neg (by omega)]; simp only [decide_eq_true_eq]; omega))
          · refine r_iconst C dX7_isPersonLetter_97 ?_
            refine r_goto C (tgt := 102) dX7_isPersonLetter_98 rfl ?_
            exact r_zret E dX7_isPersonLetter_102 (by decide) (pB_t (by unfold okP; rw [if_neg (by omega), if_neg (by omega), if_neg (by omega)]; simp only [decide_eq_true_eq]; omega))
  · rcases (show z % 4 = 0 ∨ z % 4 = 1 ∨ z % 4 = 2 by omega) with hsw | hsw | hsw
    · have hsw2 := hsw
      refine r_tin C (tgt := 36) dX7_isPersonLetter_10 (by first | assumption | exact rgm (by omega) (by omega)) (by omega) (by omega) (off := 26) (by rw [hsw]; rfl) rfl ?_
      refine r_iload_n C rfl dX7_isPersonLetter_36 ?_
      refine r_cSz C dX7_isPersonLetter_37 sw_X7_83 (c_kindBy T (rgm (by omega) (by omega))) (by decide) rfl rfl (Nat.le_of_ble_eq_true rfl) ?_
      refine r_iconst C dX7_isPersonLetter_40 ?_
      refine r_icmp_eq C (tgt := 48) dX7_isPersonLetter_41 rfl (by first | assumption | exact rgm (by omega) (by omega)) (by first | assumption | exact rgm (by omega) (by omega)) (fun h41 => ?_) (fun h41 => ?_)
      · refine r_iconst C dX7_isPersonLetter_48 ?_
        exact r_zret E dX7_isPersonLetter_49 (by decide) (pB_f (by unfold okP; rw [if_pos (by omega)]; simp only [decide_eq_true_eq]; omega))
      · refine r_iconst C dX7_isPersonLetter_44 ?_
        refine r_goto C (tgt := 49) dX7_isPersonLetter_45 rfl ?_
        exact r_zret E dX7_isPersonLetter_49 (by decide) (pB_t (by unfold okP; rw [if_pos (by omega)]; simp only [decide_eq_true_eq]; omega))
    · have hsw2 := hsw
      refine r_tin C (tgt := 50) dX7_isPersonLetter_10 (by first | assumption | exact rgm (by omega) (by omega)) (by omega) (by omega) (off := 40) (by rw [hsw]; rfl) rfl ?_
      refine r_iload_n C rfl dX7_isPersonLetter_50 ?_
      refine r_i2l C dX7_isPersonLetter_51 ?_
      refine r_ldc2 C dX7_isPersonLetter_52 kc_X7_87 ?_
      refine r_ldc2 C dX7_isPersonLetter_55 kc_X7_89 ?_
      refine r_cSb C dX7_isPersonLetter_58 sw_X7_76 (c_inZ T (b := 49) (c := 57) (rgm (by omega) (by omega)) rfl rfl) (by decide) rfl rfl (Nat.le_of_ble_eq_true rfl) (fun h58 => ?_) (fun h58 => ?_)
      · exact r_zret E dX7_isPersonLetter_61 (by decide) (pB_t (by unfold okP; rw [if_neg (by omega), if_pos (by omega)]; simp only [decide_eq_true_eq]; omega))
      · exact r_zret E dX7_isPersonLetter_61 (by decide) (pB_f (by unfold okP; rw [if_neg (by omega), if_pos (by omega)]; simp only [decide_eq_true_eq]; omega))
    · have hsw2 := hsw
      refine r_tin C (tgt := 62) dX7_isPersonLetter_10 (by first | assumption | exact rgm (by omega) (by omega)) (by omega) (by omega) (off := 52) (by rw [hsw]; rfl) rfl ?_
      refine r_iload_n C rfl dX7_isPersonLetter_62 ?_
      refine r_i2l C dX7_isPersonLetter_63 ?_
      refine r_ldc2 C dX7_isPersonLetter_64 kc_X7_91 ?_
      refine r_ldc2 C dX7_isPersonLetter_67 kc_X7_93 ?_
      refine r_cSb C dX7_isPersonLetter_70 sw_X7_76 (c_inZ T (b := 48) (c := 53) (rgm (by omega) (by omega)) rfl rfl) (by decide) rfl rfl (Nat.le_of_ble_eq_true rfl) (fun h70 => ?_) (fun h70 => ?_)
      · exact r_zret E dX7_isPersonLetter_73 (by decide) (pB_t (by unfold okP; rw [if_neg (by omega), if_neg (by omega), if_pos (by omega)]; simp only [decide_eq_true_eq]; omega))
      · exact r_zret E dX7_isPersonLetter_73 (by decide) (pB_f (by unfold okP; rw [if_neg (by omega), if_neg (by omega), if_pos (by omega)]; simp only [decide_eq_true_eq]; omega))

theorem mU_self (M : Mm_) (i j : Nat) (z : Int) (h : M.1 i j = z) : mU M i j z = M := by
  refine mU_ext h (fun _ _ _ => rfl) rfl
def pG (c : Prop) (U : Mm_) : Option Value → Mm_ → Prop := fun r M' => ((r = some (.int (zI 1)) ∧ c) ∨ (r = some (.int (zI 0)) ∧ ¬ c)) ∧ M' = U

set_option maxRecDepth 10000 in
set_option maxHeartbeats 1000000 in
theorem c_isGood (T : Mm_) {z : Int} {i : Nat} (hz : z = i) (hi : i < 24) (hp : ∀ i, i < 24 → 0 ≤ T.1 49 i ∧ T.1 49 i ≤ 126) (hE : T.1 48 2 = enP (T.1 49) i) : Cn 2 kX7_isGood [.ref 48, .int (zI z)] T (pG (gd (T.1 49) i = true) (mU T 48 2 (enP (T.1 49) (i + 1)))) := by
  refine Cn.of rfl (Nat.le_of_ble_eq_true rfl) (fun G C E => ?_)
  show G 0 [.ref 48, .int (zI z), .null] [] T
  have hc := hp i hi
  have heb := enP_b (T.1 49) i
  by_cases he : enP (T.1 49) i = -1
  · have hE1 : T.1 48 2 = -1 := by rw [hE]; exact he
    refine r_aload_n C rfl dX7_isGood_0 ?_
    refine r_geti C dX7_isGood_1 fl_X7_95 ly_48 rfl ?_
    refine r_iconst C dX7_isGood_4 ?_
    refine r_icmp_eq C (tgt := 44) dX7_isGood_5 rfl (by first | assumption | exact rgm (by omega) (by omega)) (by first | assumption | exact rgm (by omega) (by omega)) (fun h5 => ?_) (fun h5 => absurd h5 (by omega))
    refine r_aload_n C rfl dX7_isGood_44 ?_
    refine r_iload_n C rfl dX7_isGood_45 ?_
    refine r_cVb C dX7_isGood_46 vw_X7_98 (c_isPersonLetter T hz hi hp) (by decide) rfl ly_48 rfl rfl (Nat.le_of_ble_eq_true rfl) (fun h46 => ?_) (fun h46 => ?_)
    · refine r_istore_n C dX7_isGood_49 2 rfl (by decide) rfl ?_
      dsimp only [List.set, Nat.reduceAdd]
      refine r_aload_n C rfl dX7_isGood_50 ?_
      refine r_iload_n C rfl dX7_isGood_51 ?_
      refine r_if_eq C (tgt := 70) dX7_isGood_52 rfl (by first | assumption | exact rgm (by omega) (by omega)) (fun h52 => absurd h52 (by decide)) (fun h52 => ?_)
      refine r_aload_n C rfl dX7_isGood_55 ?_
      refine r_getr C dX7_isGood_56 fl_X7_7 ly_48 rfl ?_
      refine r_iload_n C rfl dX7_isGood_59 ?_
      refine r_iald C dX7_isGood_60 ly_49 hz hi ?_
      refine r_bipush C rfl dX7_isGood_61 ?_
      refine r_icmp_ne C (tgt := 70) dX7_isGood_63 rfl (by first | assumption | exact rgm (by omega) (by omega)) (by first | assumption | exact rgm (by omega) (by omega)) (fun h63 => ?_) (fun h63 => ?_)
      · refine r_iconst C dX7_isGood_70 ?_
        refine r_put C dX7_isGood_71 fl_X7_95 rfl (Or.inl rfl) ly_48 rfl ?_
        refine r_iload_n C rfl dX7_isGood_74 ?_
        exact r_zret E dX7_isGood_75 (by decide) ⟨Or.inl ⟨rfl, by unfold gd; rw [if_pos he]; exact h46⟩, by congr 1; show (-1 : Int) = if _ then _ else _; rw [if_neg (fun q => h63 q.2.2)]; exact he.symm⟩
      · refine r_iload_n C rfl dX7_isGood_66 ?_
        refine r_goto C (tgt := 71) dX7_isGood_67 rfl ?_
        refine r_put C dX7_isGood_71 fl_X7_95 rfl (Or.inl rfl) ly_48 rfl ?_
        refine r_iload_n C rfl dX7_isGood_74 ?_
        exact r_zret E dX7_isGood_75 (by decide) ⟨Or.inl ⟨rfl, by unfold gd; rw [if_pos he]; exact h46⟩, by congr 1; rw [hz]; show (i : Int) = if _ then _ else _; rw [if_pos ⟨he, h46, h63⟩]⟩
    · refine r_istore_n C dX7_isGood_49 2 rfl (by decide) rfl ?_
      dsimp only [List.set, Nat.reduceAdd]
      refine r_aload_n C rfl dX7_isGood_50 ?_
      refine r_iload_n C rfl dX7_isGood_51 ?_
      refine r_if_eq C (tgt := 70) dX7_isGood_52 rfl (by first | assumption | exact rgm (by omega) (by omega)) (fun h52 => ?_) (fun h52 => absurd h52 (by decide))
      refine r_iconst C dX7_isGood_70 ?_
      refine r_put C dX7_isGood_71 fl_X7_95 rfl (Or.inl rfl) ly_48 rfl ?_
      refine r_iload_n C rfl dX7_isGood_74 ?_
      exact r_zret E dX7_isGood_75 (by decide) ⟨Or.inr ⟨rfl, by unfold gd; rw [if_pos he]; exact h46⟩, by congr 1; show (-1 : Int) = if _ then _ else _; rw [if_neg (fun q => h46 q.2.1)]; exact he.symm⟩
  · have hE1 : T.1 48 2 ≠ -1 := by rw [hE]; exact he
    refine r_aload_n C rfl dX7_isGood_0 ?_
    refine r_geti C dX7_isGood_1 fl_X7_95 ly_48 rfl ?_
    refine r_iconst C dX7_isGood_4 ?_
    refine r_icmp_eq C (tgt := 44) dX7_isGood_5 rfl (by first | assumption | exact rgm (by omega) (by omega)) (by first | assumption | exact rgm (by omega) (by omega)) (fun h5 => absurd h5 (by omega)) (fun h5 => ?_)
    refine r_iload_n C rfl dX7_isGood_8 ?_
    refine r_aload_n C rfl dX7_isGood_9 ?_
    refine r_geti C dX7_isGood_10 fl_X7_95 ly_48 rfl ?_
    refine r_isub C dX7_isGood_13 ?_
    refine r_bipush C rfl dX7_isGood_14 ?_
    refine r_icmp_ge C (tgt := 42) dX7_isGood_16 rfl (by first | assumption | exact rgm (by omega) (by omega)) (by first | assumption | exact rgm (by omega) (by omega)) (fun h16 => ?_) (fun h16 => ?_)
    · refine r_iconst C dX7_isGood_42 ?_
      exact r_zret E dX7_isGood_43 (by decide) ⟨Or.inr ⟨rfl, by unfold gd; rw [if_neg he]; simp only [decide_eq_true_eq]; omega⟩, by rw [enP_s he, mU_self _ _ _ _ hE]⟩
    · refine r_aload_n C rfl dX7_isGood_19 ?_
      refine r_getr C dX7_isGood_20 fl_X7_7 ly_48 rfl ?_
      refine r_iload_n C rfl dX7_isGood_23 ?_
      refine r_iald C dX7_isGood_24 ly_49 hz hi ?_
      refine r_i2l C dX7_isGood_25 ?_
      refine r_ldc2 C dX7_isGood_26 kc_X7_87 ?_
      refine r_ldc2 C dX7_isGood_29 kc_X7_89 ?_
      refine r_cSb C dX7_isGood_32 sw_X7_76 (c_inZ T (b := 49) (c := 57) (rgm (by omega) (by omega)) rfl rfl) (by decide) rfl rfl (Nat.le_of_ble_eq_true rfl) (fun h32 => ?_) (fun h32 => ?_)
      · refine r_if_eq C (tgt := 42) dX7_isGood_35 rfl (by first | assumption | exact rgm (by omega) (by omega)) (fun h35 => absurd h35 (by decide)) (fun h35 => ?_)
        refine r_iconst C dX7_isGood_38 ?_
        refine r_goto C (tgt := 43) dX7_isGood_39 rfl ?_
        exact r_zret E dX7_isGood_43 (by decide) ⟨Or.inl ⟨rfl, by unfold gd; rw [if_neg he]; simp only [decide_eq_true_eq]; omega⟩, by rw [enP_s he, mU_self _ _ _ _ hE]⟩
      · refine r_if_eq C (tgt := 42) dX7_isGood_35 rfl (by first | assumption | exact rgm (by omega) (by omega)) (fun h35 => ?_) (fun h35 => absurd h35 (by decide))
        refine r_iconst C dX7_isGood_42 ?_
        exact r_zret E dX7_isGood_43 (by decide) ⟨Or.inr ⟨rfl, by unfold gd; rw [if_neg he]; simp only [decide_eq_true_eq]; omega⟩, by rw [enP_s he, mU_self _ _ _ _ hE]⟩


theorem mUU (M : Mm_) (i j : Nat) (a b : Int) : mU (mU M i j a) i j b = mU M i j b := by
  unfold mU
  congr 1
  funext x y
  by_cases h : x = i ∧ y = j
  · rw [if_pos h, if_pos h]
  · rw [if_neg h, if_neg h]
    show (if _ then _ else _) = _
    rw [if_neg h]

set_option maxRecDepth 10000 in
set_option maxHeartbeats 1000000 in
theorem c_faultOf (M : Mm_) (hp : oMp M) : Cn 3 kX7_faultOf [.ref 48] M (fun r U => r = some (.int (zI (flt (M.1 49) (M.1 48 1).toNat 0 : Nat))) ∧ ∃ e, U = mU M 48 2 e ∧ (gpre (M.1 49) (M.1 48 1).toNat → e = enP (M.1 49) (M.1 48 1).toNat) ∧ (-1 ≤ e ∧ e < 24)) := by
  have hp1 := hp.1
  obtain ⟨n, en⟩ := Int.eq_ofNat_of_zero_le hp1.1
  have en2 : (M.1 48 1).toNat = n := by omega
  rw [en2]
  refine Cn.of rfl (Nat.le_of_ble_eq_true rfl) (fun G C E => ?_)
  show G 0 [.ref 48, .null] [] M
  have lp : ∀ i : Nat, i ≤ n → ∀ z : Int, z = i → flt (M.1 49) (n - i) i = flt (M.1 49) n 0 → G 7 [.ref 48, .int (zI z)] [] (mU M 48 2 (enP (M.1 49) i)) := by
    refine lpN n ?_ ?_
    · intro z hz hres
      have e1 : (mU M 48 2 (enP (M.1 49) n)).1 48 1 = n := by simp [mU]; exact en
      rw [Nat.sub_self] at hres
      have hres : n = flt (M.1 49) n 0 := hres
      have heb := enP_b (M.1 49) n
      refine r_iload_n C rfl dX7_faultOf_7 ?_
      refine r_aload_n C rfl dX7_faultOf_8 ?_
      refine r_geti C dX7_faultOf_9 fl_X7_80 ly_48 rfl ?_
      refine r_icmp_ge C (tgt := 29) dX7_faultOf_12 rfl (by first | assumption | exact rgm (by omega) (by omega)) (by first | assumption | exact rgm (by omega) (by omega)) (fun h12 => ?_) (fun h12 => absurd h12 (by omega))
      refine r_iload_n C rfl dX7_faultOf_29 ?_
      exact r_iret E dX7_faultOf_30 ⟨by rw [← hres]; exact congrArg (fun x => some (Value.int (zI x))) hz, enP (M.1 49) n, rfl, fun _ => rfl, by omega⟩
    · intro i hi ih z hz hres
      have e1 : (mU M 48 2 (enP (M.1 49) i)).1 48 1 = n := by simp [mU]; exact en
      have e49 : (mU M 48 2 (enP (M.1 49) i)).1 49 = M.1 49 := mU_ne (by decide)
      have hfl : flt (M.1 49) (n - i) i = if gd (M.1 49) i = true then flt (M.1 49) (n - (i + 1)) (i + 1) else i := by
        rw [show n - i = (n - (i + 1)) + 1 by omega]
        rfl
      have heb := enP_b (M.1 49) (i + 1)
      refine r_iload_n C rfl dX7_faultOf_7 ?_
      refine r_aload_n C rfl dX7_faultOf_8 ?_
      refine r_geti C dX7_faultOf_9 fl_X7_80 ly_48 rfl ?_
      refine r_icmp_ge C (tgt := 29) dX7_faultOf_12 rfl (by first | assumption | exact rgm (by omega) (by omega)) (by first | assumption | exact rgm (by omega) (by omega)) (fun h12 => absurd h12 (by omega)) (fun h12 => ?_)
      refine r_aload_n C rfl dX7_faultOf_15 ?_
      refine r_iload_n C rfl dX7_faultOf_16 ?_
      refine r_callV C dX7_faultOf_17 vw_X7_102 (c_isGood (mU M 48 2 (enP (M.1 49) i)) hz (by omega) (by rw [e49]; exact hp.2) (by rw [e49]; simp [mU])) (by decide) rfl ly_48 rfl rfl (Nat.le_of_ble_eq_true rfl) ?_
      intro r U hpost
      obtain ⟨hpost, rfl⟩ := hpost
      rw [e49] at hpost ⊢
      rw [mUU]
      rcases hpost with ⟨rfl, hgd⟩ | ⟨rfl, hgd⟩
      · try dsimp only [Option.toList, List.cons_append, List.nil_append]
        refine r_if_eq C (tgt := 29) dX7_faultOf_20 rfl (by first | assumption | exact rgm (by omega) (by omega)) (fun h20 => absurd h20 (by decide)) (fun h20 => ?_)
        refine r_iinc C dX7_faultOf_23 rfl (by decide) rfl ?_
        dsimp only [List.set, Nat.reduceAdd]
        refine r_goto C (tgt := 7) dX7_faultOf_26 rfl ?_
        exact ih _ (by omega) (by rw [← hres, hfl, if_pos hgd])
      · try dsimp only [Option.toList, List.cons_append, List.nil_append]
        refine r_if_eq C (tgt := 29) dX7_faultOf_20 rfl (by first | assumption | exact rgm (by omega) (by omega)) (fun h20 => ?_) (fun h20 => absurd h20 (by decide))
        refine r_iload_n C rfl dX7_faultOf_29 ?_
        exact r_iret E dX7_faultOf_30 ⟨by rw [← hres, hfl, if_neg hgd]; exact congrArg (fun x => some (Value.int (zI x))) hz, enP (M.1 49) (i + 1), rfl, fun q => absurd (q i hi) hgd, by omega⟩
  refine r_aload_n C rfl dX7_faultOf_0 ?_
  refine r_iconst C dX7_faultOf_1 ?_
  refine r_put C dX7_faultOf_2 fl_X7_95 rfl (Or.inl rfl) ly_48 rfl ?_
  refine r_iconst C dX7_faultOf_5 ?_
  refine r_istore_n C dX7_faultOf_6 1 rfl (by decide) rfl ?_
  dsimp only [List.set, Nat.reduceAdd]
  exact lp 0 (Nat.zero_le _) _ rfl rfl
set_option maxRecDepth 10000 in
set_option maxHeartbeats 1000000 in
theorem c_m_fault (M : Mm_) (hp : oMp M) : Cn 4 kX7_fault [.ref 48] M (fun r U => r = some (.int (zI (flt (M.1 49) (M.1 48 1).toNat 0 : Nat))) ∧ ∃ e, U = mU M 48 2 e) := by
  refine Cn.of rfl (Nat.le_of_ble_eq_true rfl) (fun G C E => ?_)
  show G 0 [.ref 48] [] M
  refine r_aload_n C rfl dX7_fault_0 ?_
  refine r_callV C dX7_fault_1 vw_X7_105 (c_faultOf M hp) (by decide) rfl ly_48 rfl rfl (Nat.le_of_ble_eq_true rfl) ?_
  intro r U hpost
  obtain ⟨rfl, e, rfl, -, -⟩ := hpost
  try dsimp only [Option.toList, List.cons_append, List.nil_append]
  exact r_iret E dX7_fault_4 ⟨rfl, e, rfl⟩

def rvM (M : Mm_) (c : Nat → Int) (e : Nat) (n p : Int) (a1 a2 a3 a4 a5 w s b : Nat) : Mm_ := (fun x y => if x = 48 ∧ y = 3 then n else if x = 48 ∧ y = 4 then p else if x = 50 ∧ y % 3 = 0 ∧ y / 3 < a1 then ixF (c (4 * (y / 3))) else if x = 50 ∧ y % 3 = 1 ∧ y / 3 < a2 then c (4 * (y / 3) + 1) - 48 else if x = 50 ∧ y % 3 = 2 ∧ y / 3 < a3 then 0 else if x = 51 ∧ y < a4 then c (4 * y + 2) - 48 else if x = 52 ∧ y < a5 then 0 else if x = 53 ∧ y < w then c (e + 1 + y) - 48 else if x = 54 ∧ y < s then 0 else if x = 55 ∧ y < b then 0 else M.1 x y, M.2)
theorem rv_ne {M : Mm_} {c : Nat → Int} {e : Nat} {n p : Int} {a1 a2 a3 a4 a5 w s b x : Nat} (h : x ≠ 48 ∧ x ≠ 50 ∧ x ≠ 51 ∧ x ≠ 52 ∧ x ≠ 53 ∧ x ≠ 54 ∧ x ≠ 55) : (rvM M c e n p a1 a2 a3 a4 a5 w s b).1 x = M.1 x := by
  funext y
  simp [rvM, h]
theorem rv_48 {M : Mm_} {c : Nat → Int} {e : Nat} {n p : Int} {a1 a2 a3 a4 a5 w s b y : Nat} (h : y ≠ 3 ∧ y ≠ 4) : (rvM M c e n p a1 a2 a3 a4 a5 w s b).1 48 y = M.1 48 y := by
  simp [rvM, h]
theorem rv_1 {M : Mm_} {c : Nat → Int} {e : Nat} {n p v : Int} {a1 a2 a3 a4 a5 w s b : Nat} (hv : v = ixF (c (4 * a1))) : mU (rvM M c e n p a1 a2 a3 a4 a5 w s b) 50 (3 * a1) v = rvM M c e n p (a1 + 1) a2 a3 a4 a5 w s b := by
  refine mU_ext (by simp [rvM, hv]) (fun x y h => ?_) rfl
  have q : (x = 50 ∧ y % 3 = 0 ∧ y / 3 < a1 + 1) ↔ (x = 50 ∧ y % 3 = 0 ∧ y / 3 < a1) := by omega
  simp only [rvM, q]
theorem rv_2 {M : Mm_} {c : Nat → Int} {e : Nat} {n p v : Int} {a1 a2 a3 a4 a5 w s b : Nat} (hv : v = c (4 * a2 + 1) - 48) : mU (rvM M c e n p a1 a2 a3 a4 a5 w s b) 50 (3 * a2 + 1) v = rvM M c e n p a1 (a2 + 1) a3 a4 a5 w s b := by
  refine mU_ext ?_ (fun x y h => ?_) rfl
  · have q1 : ¬ ((3 * a2 + 1) % 3 = 0) := by omega
    have q2 : (3 * a2 + 1) % 3 = 1 := by omega
    have q3 : (3 * a2 + 1) / 3 = a2 := by omega
    simp [rvM, q2, q3, hv]
  have q : (x = 50 ∧ y % 3 = 1 ∧ y / 3 < a2 + 1) ↔ (x = 50 ∧ y % 3 = 1 ∧ y / 3 < a2) := by omega
  simp only [rvM, q]
theorem rv_3 {M : Mm_} {c : Nat → Int} {e : Nat} {n p : Int} {a1 a2 a3 a4 a5 w s b : Nat} : mU (rvM M c e n p a1 a2 a3 a4 a5 w s b) 50 (3 * a3 + 2) 0 = rvM M c e n p a1 a2 (a3 + 1) a4 a5 w s b := by
  refine mU_ext ?_ (fun x y h => ?_) rfl
  · have q2 : (3 * a3 + 2) % 3 = 2 := by omega
    have q3 : (3 * a3 + 2) / 3 = a3 := by omega
    simp [rvM, q2, q3]
  have q : (x = 50 ∧ y % 3 = 2 ∧ y / 3 < a3 + 1) ↔ (x = 50 ∧ y % 3 = 2 ∧ y / 3 < a3) := by omega
  simp only [rvM, q]
theorem rv_4 {M : Mm_} {c : Nat → Int} {e : Nat} {n p v : Int} {a1 a2 a3 a4 a5 w s b : Nat} (hv : v = c (4 * a4 + 2) - 48) : mU (rvM M c e n p a1 a2 a3 a4 a5 w s b) 51 a4 v = rvM M c e n p a1 a2 a3 (a4 + 1) a5 w s b := by
  refine mU_ext (by simp [rvM, hv]) (fun x y h => ?_) rfl
  have q : (x = 51 ∧ y < a4 + 1) ↔ (x = 51 ∧ y < a4) := by omega
  simp only [rvM, q]
theorem rv_5 {M : Mm_} {c : Nat → Int} {e : Nat} {n p : Int} {a1 a2 a3 a4 a5 w s b : Nat} : mU (rvM M c e n p a1 a2 a3 a4 a5 w s b) 52 a5 0 = rvM M c e n p a1 a2 a3 a4 (a5 + 1) w s b := by
  refine mU_ext (by simp [rvM]) (fun x y h => ?_) rfl
  have q : (x = 52 ∧ y < a5 + 1) ↔ (x = 52 ∧ y < a5) := by omega
  simp only [rvM, q]
theorem rv_6 {M : Mm_} {c : Nat → Int} {e : Nat} {n p v : Int} {a1 a2 a3 a4 a5 w s b : Nat} (hv : v = c (e + 1 + w) - 48) : mU (rvM M c e n p a1 a2 a3 a4 a5 w s b) 53 w v = rvM M c e n p a1 a2 a3 a4 a5 (w + 1) s b := by
  refine mU_ext (by simp [rvM, hv]) (fun x y h => ?_) rfl
  have q : (x = 53 ∧ y < w + 1) ↔ (x = 53 ∧ y < w) := by omega
  simp only [rvM, q]
theorem rv_7 {M : Mm_} {c : Nat → Int} {e : Nat} {n p : Int} {a1 a2 a3 a4 a5 w s b : Nat} : mU (rvM M c e n p a1 a2 a3 a4 a5 w s b) 54 s 0 = rvM M c e n p a1 a2 a3 a4 a5 w (s + 1) b := by
  refine mU_ext (by simp [rvM]) (fun x y h => ?_) rfl
  have q : (x = 54 ∧ y < s + 1) ↔ (x = 54 ∧ y < s) := by omega
  simp only [rvM, q]
theorem rv_8 {M : Mm_} {c : Nat → Int} {e : Nat} {n p : Int} {a1 a2 a3 a4 a5 w s b : Nat} : mU (rvM M c e n p a1 a2 a3 a4 a5 w s b) 55 b 0 = rvM M c e n p a1 a2 a3 a4 a5 w s (b + 1) := by
  refine mU_ext (by simp [rvM]) (fun x y h => ?_) rfl
  have q : (x = 55 ∧ y < b + 1) ↔ (x = 55 ∧ y < b) := by omega
  simp only [rvM, q]
theorem rv_0 {M : Mm_} {c : Nat → Int} {e : Nat} {n p : Int} : mU (mU M 48 3 n) 48 4 p = rvM M c e n p 0 0 0 0 0 0 0 0 := by
  refine mU_ext (by simp [rvM]) (fun x y h => ?_) rfl
  by_cases h5 : x = 48 ∧ y = 3
  · obtain ⟨rfl, rfl⟩ := h5
    simp [rvM, mU]
  · simp [rvM, mU, h, h5]
def mVaM (M : Mm_) (e k m : Nat) : Mm_ := mU (mU (mU (mU (mU (mU (mU (rvM (mU M 48 2 e) (M.1 49) e k m k k k k k m m 4) 48 5 0) 48 6 0) 48 7 0) 48 8 0) 48 22 0) 48 9 (M.1 48 9 + 1)) 48 1 0

set_option maxRecDepth 10000 in
set_option maxHeartbeats 1000000 in
theorem c_m_valley_no (M : Mm_) (hp : oMp M) (hvl : ¬ isVl (M.1 49) (M.1 48 1).toNat) : Cn 4 kX7_valley [.ref 48] M (fun r U => r = some (.int (zI (-103))) ∧ ∃ e, U = mU M 48 2 e) := by
  have hp1 := hp.1
  obtain ⟨n, en⟩ := Int.eq_ofNat_of_zero_le hp1.1
  have en2 : (M.1 48 1).toNat = n := by omega
  rw [en2] at hvl
  have hfl := flt_s (M.1 49) n 0
  have hg := flt_g (c := M.1 49) (n := n)
  refine Cn.of rfl (Nat.le_of_ble_eq_true rfl) (fun G C E => ?_)
  show G 0 [.ref 48, .null] [] M
  refine r_aload_n C rfl dX7_valley_0 ?_
  refine r_callV C dX7_valley_1 vw_X7_105 (c_faultOf M hp) (by decide) rfl ly_48 rfl rfl (Nat.le_of_ble_eq_true rfl) ?_
  intro r U hpost
  obtain ⟨rfl, ee, rfl, hee, heb⟩ := hpost
  try dsimp only [Option.toList, List.cons_append, List.nil_append]
  rw [en2]
  rw [en2] at hee
  have e481 : (mU M 48 2 ee).1 48 1 = n := by simp [mU]; exact en
  have e482 : (mU M 48 2 ee).1 48 2 = ee := by simp [mU]
  refine r_aload_n C rfl dX7_valley_4 ?_
  refine r_geti C dX7_valley_5 fl_X7_80 ly_48 rfl ?_
  refine r_icmp_lt C (tgt := 32) dX7_valley_8 rfl (by first | assumption | exact rgm (by omega) (by omega)) (by first | assumption | exact rgm (by omega) (by omega)) (fun h8 => ?_) (fun h8 => ?_)
  · refine r_bipush C rfl dX7_valley_32 ?_
    exact r_iret E dX7_valley_34 ⟨rfl, ee, rfl⟩
  · refine r_aload_n C rfl dX7_valley_11 ?_
    refine r_geti C dX7_valley_12 fl_X7_95 ly_48 rfl ?_
    refine r_iconst C dX7_valley_15 ?_
    refine r_icmp_eq C (tgt := 32) dX7_valley_16 rfl (by first | assumption | exact rgm (by omega) (by omega)) (by first | assumption | exact rgm (by omega) (by omega)) (fun h16 => ?_) (fun h16 => ?_)
    · refine r_bipush C rfl dX7_valley_32 ?_
      exact r_iret E dX7_valley_34 ⟨rfl, ee, rfl⟩
    · refine r_aload_n C rfl dX7_valley_19 ?_
      refine r_geti C dX7_valley_20 fl_X7_80 ly_48 rfl ?_
      refine r_aload_n C rfl dX7_valley_23 ?_
      refine r_geti C dX7_valley_24 fl_X7_95 ly_48 rfl ?_
      refine r_isub C dX7_valley_27 ?_
      refine r_iconst C dX7_valley_28 ?_
      refine r_icmp_ge C (tgt := 35) dX7_valley_29 rfl (by first | assumption | exact rgm (by omega) (by omega)) (by first | assumption | exact rgm (by omega) (by omega)) (fun h29 => ?_) (fun h29 => ?_)
      · have hgp : gpre (M.1 49) n := hg.mp (by omega)
        have hee2 := hee hgp
        exact absurd ⟨hgp, by omega, by omega⟩ hvl
      · refine r_bipush C rfl dX7_valley_32 ?_
        exact r_iret E dX7_valley_34 ⟨rfl, ee, rfl⟩
set_option maxRecDepth 10000 in
set_option maxHeartbeats 1000000 in
theorem c_m_valley (M : Mm_) (hp : oMp M) (hvl : isVl (M.1 49) (M.1 48 1).toNat) {e k m : Nat} (hen : enP (M.1 49) (M.1 48 1).toNat = e) (hek : e + 1 = 4 * k) (hk2 : 2 ≤ k) (hk4 : k ≤ 4) (hnm : M.1 48 1 = e + 1 + m) (hm2 : 2 ≤ m) (hm6 : m ≤ 6) : Cn 4 kX7_valley [.ref 48] M (pZ (m : Int) (mVaM M e k m)) := by
  have hp1 := hp.1
  obtain ⟨n, en⟩ := Int.eq_ofNat_of_zero_le hp1.1
  have en2 : (M.1 48 1).toNat = n := by omega
  rw [en2] at hvl
  have hfl := flt_s (M.1 49) n 0
  have hg := flt_g (c := M.1 49) (n := n)
  rw [en2] at hen
  refine Cn.of rfl (Nat.le_of_ble_eq_true rfl) (fun G C E => ?_)
  show G 0 [.ref 48, .null] [] M
  have lp3 : ∀ i : Nat, i ≤ 4 → ∀ z : Int, z = i → G 204 [.ref 48, .int (zI z)] [] (rvM (mU M 48 2 (e : Int)) (M.1 49) e k m k k k k k m m i) := by
    refine lpN 4 ?_ ?_
    · intro z hz
      refine r_iload_n C rfl dX7_valley_204 ?_
      refine r_iconst C dX7_valley_205 ?_
      refine r_icmp_ge C (tgt := 222) dX7_valley_206 rfl (by first | assumption | exact rgm (by omega) (by omega)) (by first | assumption | exact rgm (by omega) (by omega)) (fun h206 => ?_) (fun h206 => absurd h206 (by omega))
      refine r_aload_n C rfl dX7_valley_222 ?_
      refine r_iconst C dX7_valley_223 ?_
      refine r_put C dX7_valley_224 fl_X7_115 rfl (Or.inl rfl) ly_48 rfl ?_
      refine r_aload_n C rfl dX7_valley_227 ?_
      refine r_iconst C dX7_valley_228 ?_
      refine r_put C dX7_valley_229 fl_X7_118 rfl (Or.inl rfl) ly_48 rfl ?_
      refine r_aload_n C rfl dX7_valley_232 ?_
      refine r_iconst C dX7_valley_233 ?_
      refine r_put C dX7_valley_234 fl_X7_121 rfl (Or.inl rfl) ly_48 rfl ?_
      refine r_aload_n C rfl dX7_valley_237 ?_
      refine r_iconst C dX7_valley_238 ?_
      refine r_put C dX7_valley_239 fl_X7_124 rfl (Or.inl rfl) ly_48 rfl ?_
      refine r_aload_n C rfl dX7_valley_242 ?_
      refine r_iconst C dX7_valley_243 ?_
      refine r_put C dX7_valley_244 fl_X7_127 rfl (Or.inl rfl) ly_48 rfl ?_
      refine r_aload_n C rfl dX7_valley_247 ?_
      refine r_dup C rfl dX7_valley_248 ?_
      refine r_geti C dX7_valley_249 fl_X7_130 ly_48 rfl ?_
      refine r_iconst C dX7_valley_252 ?_
      refine r_iadd C dX7_valley_253 ?_
      refine r_put C dX7_valley_254 fl_X7_130 rfl (Or.inl rfl) ly_48 rfl ?_
      refine r_aload_n C rfl dX7_valley_257 ?_
      refine r_iconst C dX7_valley_258 ?_
      refine r_put C dX7_valley_259 fl_X7_80 rfl (Or.inl rfl) ly_48 rfl ?_
      refine r_aload_n C rfl dX7_valley_262 ?_
      refine r_geti C dX7_valley_263 fl_X7_112 ly_48 rfl ?_
      exact r_iret E dX7_valley_266 (by
        have e9 : (mU (mU (mU (mU (mU (rvM (mU M 48 2 (e : Int)) (M.1 49) e k m k k k k k m m 4) 48 5 0) 48 6 0) 48 7 0) 48 8 0) 48 22 0).1 48 9 = M.1 48 9 := by
          rw [show (mU (mU (mU (mU (mU (rvM (mU M 48 2 (e : Int)) (M.1 49) e k m k k k k k m m 4) 48 5 0) 48 6 0) 48 7 0) 48 8 0) 48 22 0).1 48 9 = (rvM (mU M 48 2 (e : Int)) (M.1 49) e k m k k k k k m m 4).1 48 9 by simp [mU], rv_48 (by decide)]
          simp [mU]
        rw [e9]
        refine ⟨?_, rfl⟩
        simp [mU, rvM])
    · intro i hi ih z hz
      refine r_iload_n C rfl dX7_valley_204 ?_
      refine r_iconst C dX7_valley_205 ?_
      refine r_icmp_ge C (tgt := 222) dX7_valley_206 rfl (by first | assumption | exact rgm (by omega) (by omega)) (by first | assumption | exact rgm (by omega) (by omega)) (fun h206 => absurd h206 (by omega)) (fun h206 => ?_)
      refine r_aload_n C rfl dX7_valley_209 ?_
      refine r_getr C dX7_valley_210 fl_X7_28 ly_48 rfl ?_
      refine r_iload_n C rfl dX7_valley_213 ?_
      refine r_iconst C dX7_valley_214 ?_
      refine r_iast C dX7_valley_215 ly_55 hz (by omega) ?_
      rw [rv_8]
      refine r_iinc C dX7_valley_216 rfl (by decide) rfl ?_
      dsimp only [List.set, Nat.reduceAdd]
      refine r_goto C (tgt := 204) dX7_valley_219 rfl ?_
      exact ih _ (by omega)
  have lp2 : ∀ i : Nat, i ≤ m → ∀ z : Int, z = i → G 159 [.ref 48, .int (zI z)] [] (rvM (mU M 48 2 (e : Int)) (M.1 49) e k m k k k k k i i 0) := by
    refine lpN m ?_ ?_
    · intro z hz
      have e484 : (rvM (mU M 48 2 (e : Int)) (M.1 49) e k m k k k k k m m 0).1 48 4 = m := by simp [rvM]
      refine r_iload_n C rfl dX7_valley_159 ?_
      refine r_aload_n C rfl dX7_valley_160 ?_
      refine r_geti C dX7_valley_161 fl_X7_112 ly_48 rfl ?_
      refine r_icmp_ge C (tgt := 202) dX7_valley_164 rfl (by first | assumption | exact rgm (by omega) (by omega)) (by first | assumption | exact rgm (by omega) (by omega)) (fun h164 => ?_) (fun h164 => absurd h164 (by omega))
      refine r_iconst C dX7_valley_202 ?_
      refine r_istore_n C dX7_valley_203 1 rfl (by decide) rfl ?_
      dsimp only [List.set, Nat.reduceAdd]
      exact lp3 0 (by omega) _ rfl
    · intro i hi ih z hz
      have e484 : (rvM (mU M 48 2 (e : Int)) (M.1 49) e k m k k k k k i i 0).1 48 4 = m := by simp [rvM]
      have e482 : (rvM (mU M 48 2 (e : Int)) (M.1 49) e k m k k k k k i i 0).1 48 2 = e := by rw [rv_48 (by decide)]; simp [mU]
      refine r_iload_n C rfl dX7_valley_159 ?_
      refine r_aload_n C rfl dX7_valley_160 ?_
      refine r_geti C dX7_valley_161 fl_X7_112 ly_48 rfl ?_
      refine r_icmp_ge C (tgt := 202) dX7_valley_164 rfl (by first | assumption | exact rgm (by omega) (by omega)) (by first | assumption | exact rgm (by omega) (by omega)) (fun h164 => absurd h164 (by omega)) (fun h164 => ?_)
      refine r_aload_n C rfl dX7_valley_167 ?_
      refine r_getr C dX7_valley_168 fl_X7_22 ly_48 rfl ?_
      refine r_iload_n C rfl dX7_valley_171 ?_
      refine r_aload_n C rfl dX7_valley_172 ?_
      refine r_getr C dX7_valley_173 fl_X7_7 ly_48 rfl ?_
      refine r_aload_n C rfl dX7_valley_176 ?_
      refine r_geti C dX7_valley_177 fl_X7_95 ly_48 rfl ?_
      refine r_iconst C dX7_valley_180 ?_
      refine r_iadd C dX7_valley_181 ?_
      refine r_iload_n C rfl dX7_valley_182 ?_
      refine r_iadd C dX7_valley_183 ?_
      refine r_iald C dX7_valley_184 ly_49 (k := e + 1 + i) (by omega) (by omega) ?_
      rw [show (rvM (mU M 48 2 (e : Int)) (M.1 49) e k m k k k k k i i 0).1 49 (e + 1 + i) = M.1 49 (e + 1 + i) by rw [rv_ne (by decide), mU_ne (by decide)]]
      refine r_bipush C rfl dX7_valley_185 ?_
      refine r_isub C dX7_valley_187 ?_
      refine r_iast C dX7_valley_188 ly_53 hz (by omega) ?_
      rw [rv_6 rfl]
      refine r_aload_n C rfl dX7_valley_189 ?_
      refine r_getr C dX7_valley_190 fl_X7_25 ly_48 rfl ?_
      refine r_iload_n C rfl dX7_valley_193 ?_
      refine r_iconst C dX7_valley_194 ?_
      refine r_iast C dX7_valley_195 ly_54 hz (by omega) ?_
      rw [rv_7]
      refine r_iinc C dX7_valley_196 rfl (by decide) rfl ?_
      dsimp only [List.set, Nat.reduceAdd]
      refine r_goto C (tgt := 159) dX7_valley_199 rfl ?_
      exact ih _ (by omega)
  have lp1 : ∀ i : Nat, i ≤ k → ∀ z : Int, z = i → G 64 [.ref 48, .int (zI z)] [] (rvM (mU M 48 2 (e : Int)) (M.1 49) e k m i i i i i 0 0 0) := by
    refine lpN k ?_ ?_
    · intro z hz
      have e483 : (rvM (mU M 48 2 (e : Int)) (M.1 49) e k m k k k k k 0 0 0).1 48 3 = k := by simp [rvM]
      refine r_iload_n C rfl dX7_valley_64 ?_
      refine r_aload_n C rfl dX7_valley_65 ?_
      refine r_geti C dX7_valley_66 fl_X7_109 ly_48 rfl ?_
      refine r_icmp_ge C (tgt := 157) dX7_valley_69 rfl (by first | assumption | exact rgm (by omega) (by omega)) (by first | assumption | exact rgm (by omega) (by omega)) (fun h69 => ?_) (fun h69 => absurd h69 (by omega))
      refine r_iconst C dX7_valley_157 ?_
      refine r_istore_n C dX7_valley_158 1 rfl (by decide) rfl ?_
      dsimp only [List.set, Nat.reduceAdd]
      exact lp2 0 (Nat.zero_le _) _ rfl
    · intro i hi ih z hz
      have e483 : (rvM (mU M 48 2 (e : Int)) (M.1 49) e k m i i i i i 0 0 0).1 48 3 = k := by simp [rvM]
      have hcc := hp.2 (4 * i) (by omega)
      refine r_iload_n C rfl dX7_valley_64 ?_
      refine r_aload_n C rfl dX7_valley_65 ?_
      refine r_geti C dX7_valley_66 fl_X7_109 ly_48 rfl ?_
      refine r_icmp_ge C (tgt := 157) dX7_valley_69 rfl (by first | assumption | exact rgm (by omega) (by omega)) (by first | assumption | exact rgm (by omega) (by omega)) (fun h69 => absurd h69 (by omega)) (fun h69 => ?_)
      refine r_aload_n C rfl dX7_valley_72 ?_
      refine r_getr C dX7_valley_73 fl_X7_13 ly_48 rfl ?_
      refine r_iconst C dX7_valley_76 ?_
      refine r_iload_n C rfl dX7_valley_77 ?_
      refine r_imul C dX7_valley_78 ?_
      refine r_aload_n C rfl dX7_valley_79 ?_
      refine r_getr C dX7_valley_80 fl_X7_7 ly_48 rfl ?_
      refine r_iconst C dX7_valley_83 ?_
      refine r_iload_n C rfl dX7_valley_84 ?_
      refine r_imul C dX7_valley_85 ?_
      refine r_iald C dX7_valley_86 ly_49 (k := 4 * i) (by omega) (by omega) ?_
      rw [show (rvM (mU M 48 2 (e : Int)) (M.1 49) e k m i i i i i 0 0 0).1 49 (4 * i) = M.1 49 (4 * i) by rw [rv_ne (by decide), mU_ne (by decide)]]
      refine r_cSz C dX7_valley_87 sw_X7_83 (c_kindBy _ (rgm (by omega) (by omega))) (by decide) rfl rfl (Nat.le_of_ble_eq_true rfl) ?_
      refine r_iast C dX7_valley_90 ly_50 (k := 3 * i) (by omega) (by omega) ?_
      rw [rv_1 rfl]
      refine r_aload_n C rfl dX7_valley_91 ?_
      refine r_getr C dX7_valley_92 fl_X7_13 ly_48 rfl ?_
      refine r_iconst C dX7_valley_95 ?_
      refine r_iload_n C rfl dX7_valley_96 ?_
      refine r_imul C dX7_valley_97 ?_
      refine r_iconst C dX7_valley_98 ?_
      refine r_iadd C dX7_valley_99 ?_
      refine r_aload_n C rfl dX7_valley_100 ?_
      refine r_getr C dX7_valley_101 fl_X7_7 ly_48 rfl ?_
      refine r_iconst C dX7_valley_104 ?_
      refine r_iload_n C rfl dX7_valley_105 ?_
      refine r_imul C dX7_valley_106 ?_
      refine r_iconst C dX7_valley_107 ?_
      refine r_iadd C dX7_valley_108 ?_
      refine r_iald C dX7_valley_109 ly_49 (k := 4 * i + 1) (by omega) (by omega) ?_
      rw [show (rvM (mU M 48 2 (e : Int)) (M.1 49) e k m (i + 1) i i i i 0 0 0).1 49 (4 * i + 1) = M.1 49 (4 * i + 1) by rw [rv_ne (by decide), mU_ne (by decide)]]
      refine r_bipush C rfl dX7_valley_110 ?_
      refine r_isub C dX7_valley_112 ?_
      refine r_iast C dX7_valley_113 ly_50 (k := 3 * i + 1) (by omega) (by omega) ?_
      rw [rv_2 rfl]
      refine r_aload_n C rfl dX7_valley_114 ?_
      refine r_getr C dX7_valley_115 fl_X7_13 ly_48 rfl ?_
      refine r_iconst C dX7_valley_118 ?_
      refine r_iload_n C rfl dX7_valley_119 ?_
      refine r_imul C dX7_valley_120 ?_
      refine r_iconst C dX7_valley_121 ?_
      refine r_iadd C dX7_valley_122 ?_
      refine r_iconst C dX7_valley_123 ?_
      refine r_iast C dX7_valley_124 ly_50 (k := 3 * i + 2) (by omega) (by omega) ?_
      rw [rv_3]
      refine r_aload_n C rfl dX7_valley_125 ?_
      refine r_getr C dX7_valley_126 fl_X7_16 ly_48 rfl ?_
      refine r_iload_n C rfl dX7_valley_129 ?_
      refine r_aload_n C rfl dX7_valley_130 ?_
      refine r_getr C dX7_valley_131 fl_X7_7 ly_48 rfl ?_
      refine r_iconst C dX7_valley_134 ?_
      refine r_iload_n C rfl dX7_valley_135 ?_
      refine r_imul C dX7_valley_136 ?_
      refine r_iconst C dX7_valley_137 ?_
      refine r_iadd C dX7_valley_138 ?_
      refine r_iald C dX7_valley_139 ly_49 (k := 4 * i + 2) (by omega) (by omega) ?_
      rw [show (rvM (mU M 48 2 (e : Int)) (M.1 49) e k m (i + 1) (i + 1) (i + 1) i i 0 0 0).1 49 (4 * i + 2) = M.1 49 (4 * i + 2) by rw [rv_ne (by decide), mU_ne (by decide)]]
      refine r_bipush C rfl dX7_valley_140 ?_
      refine r_isub C dX7_valley_142 ?_
      refine r_iast C dX7_valley_143 ly_51 hz (by omega) ?_
      rw [rv_4 rfl]
      refine r_aload_n C rfl dX7_valley_144 ?_
      refine r_getr C dX7_valley_145 fl_X7_19 ly_48 rfl ?_
      refine r_iload_n C rfl dX7_valley_148 ?_
      refine r_iconst C dX7_valley_149 ?_
      refine r_iast C dX7_valley_150 ly_52 hz (by omega) ?_
      rw [rv_5]
      refine r_iinc C dX7_valley_151 rfl (by decide) rfl ?_
      dsimp only [List.set, Nat.reduceAdd]
      refine r_goto C (tgt := 64) dX7_valley_154 rfl ?_
      exact ih _ (by omega)
  refine r_aload_n C rfl dX7_valley_0 ?_
  refine r_callV C dX7_valley_1 vw_X7_105 (c_faultOf M hp) (by decide) rfl ly_48 rfl rfl (Nat.le_of_ble_eq_true rfl) ?_
  intro r U hpost
  obtain ⟨rfl, ee, rfl, hee, heb⟩ := hpost
  try dsimp only [Option.toList, List.cons_append, List.nil_append]
  rw [en2]
  rw [en2] at hee
  have e481 : (mU M 48 2 ee).1 48 1 = n := by simp [mU]; exact en
  have e482 : (mU M 48 2 ee).1 48 2 = ee := by simp [mU]
  have hee2 : ee = e := by rw [hee hvl.1]; exact hen
  have hfn : flt (M.1 49) n 0 = n := hg.mpr hvl.1
  subst hee2
  refine r_aload_n C rfl dX7_valley_4 ?_
  refine r_geti C dX7_valley_5 fl_X7_80 ly_48 rfl ?_
  refine r_icmp_lt C (tgt := 32) dX7_valley_8 rfl (by first | assumption | exact rgm (by omega) (by omega)) (by first | assumption | exact rgm (by omega) (by omega)) (fun h8 => absurd h8 (by omega)) (fun h8 => ?_)
  refine r_aload_n C rfl dX7_valley_11 ?_
  refine r_geti C dX7_valley_12 fl_X7_95 ly_48 rfl ?_
  refine r_iconst C dX7_valley_15 ?_
  refine r_icmp_eq C (tgt := 32) dX7_valley_16 rfl (by first | assumption | exact rgm (by omega) (by omega)) (by first | assumption | exact rgm (by omega) (by omega)) (fun h16 => absurd h16 (by omega)) (fun h16 => ?_)
  refine r_aload_n C rfl dX7_valley_19 ?_
  refine r_geti C dX7_valley_20 fl_X7_80 ly_48 rfl ?_
  refine r_aload_n C rfl dX7_valley_23 ?_
  refine r_geti C dX7_valley_24 fl_X7_95 ly_48 rfl ?_
  refine r_isub C dX7_valley_27 ?_
  refine r_iconst C dX7_valley_28 ?_
  refine r_icmp_ge C (tgt := 35) dX7_valley_29 rfl (by first | assumption | exact rgm (by omega) (by omega)) (by first | assumption | exact rgm (by omega) (by omega)) (fun h29 => ?_) (fun h29 => absurd h29 (by omega))
  refine r_aload_n C rfl dX7_valley_35 ?_
  refine r_aload_n C rfl dX7_valley_36 ?_
  refine r_geti C dX7_valley_37 fl_X7_95 ly_48 rfl ?_
  refine r_iconst C dX7_valley_40 ?_
  refine r_iadd C dX7_valley_41 ?_
  refine r_iconst C dX7_valley_42 ?_
  refine r_idiv C (by omega) (by omega) (by first | assumption | exact rgm (by omega) (by omega)) (by first | assumption | exact rgm (by omega) (by omega)) dX7_valley_43 ?_
  rw [e482, show ((e : Int) + 1) / 4 = (k : Int) by omega]
  refine r_put C dX7_valley_44 fl_X7_109 rfl (Or.inl rfl) ly_48 rfl ?_
  refine r_aload_n C rfl dX7_valley_47 ?_
  refine r_aload_n C rfl dX7_valley_48 ?_
  have e481b : (mU (mU M 48 2 (e : Int)) 48 3 (k : Int)).1 48 1 = n := by simp [mU]; exact en
  have e482b : (mU (mU M 48 2 (e : Int)) 48 3 (k : Int)).1 48 2 = e := by simp [mU]
  refine r_geti C dX7_valley_49 fl_X7_80 ly_48 rfl ?_
  refine r_aload_n C rfl dX7_valley_52 ?_
  refine r_geti C dX7_valley_53 fl_X7_95 ly_48 rfl ?_
  refine r_isub C dX7_valley_56 ?_
  refine r_iconst C dX7_valley_57 ?_
  refine r_isub C dX7_valley_58 ?_
  rw [show (mU (mU M 48 2 (e : Int)) 48 3 (k : Int)).1 48 1 - (mU (mU M 48 2 (e : Int)) 48 3 (k : Int)).1 48 2 - 1 = (m : Int) by omega]
  refine r_put C dX7_valley_59 fl_X7_112 rfl (Or.inl rfl) ly_48 rfl ?_
  rw [rv_0 (c := M.1 49) (e := e)]
  refine r_iconst C dX7_valley_62 ?_
  refine r_istore_n C dX7_valley_63 1 rfl (by decide) rfl ?_
  dsimp only [List.set, Nat.reduceAdd]
  exact lp1 0 (Nat.zero_le _) _ rfl
