set_option maxRecDepth 10000 in
set_option maxHeartbeats 1000000 in
theorem c_setNow (M : Mm_) (hv : oMv M) : Cn 0 kX7_setNow [.ref 48] M (pZ (sm (M.1 54) (M.1 48 4).toNat) M) := by
  have hv0 : (M.1 48 3 = 0 ∧ M.1 48 4 = 0) ∨ (2 ≤ M.1 48 3 ∧ M.1 48 3 ≤ 4 ∧ 2 ≤ M.1 48 4 ∧ M.1 48 4 ≤ 6) := hv
  obtain ⟨n, hn⟩ : ∃ n : Nat, M.1 48 4 = n := ⟨(M.1 48 4).toNat, by omega⟩
  rw [show (M.1 48 4).toNat = n by omega]
  refine Cn.of rfl (Nat.le_of_ble_eq_true rfl) (fun G C E => ?_)
  show G 0 [.ref 48, .null, .null] [] M
  have lp : ∀ i : Nat, i ≤ n → ∀ s z : Int, s = sm (M.1 54) i → z = i → G 4 [.ref 48, .int (zI s), .int (zI z)] [] M := by
    refine lpN n ?_ ?_
    · intro s z hs hz 
      refine r_iload_n C rfl dX7_setNow_4 ?_
      refine r_aload_n C rfl dX7_setNow_5 ?_
      refine r_geti C dX7_setNow_6 fl_X7_112 ly_48 rfl ?_
      refine r_icmp_ge C (tgt := 27) dX7_setNow_9 rfl (by first | assumption | exact rgm (by omega) (by omega)) (by first | assumption | exact rgm (by omega) (by omega)) (fun h9 => ?_) (fun h9 => absurd h9 (by omega))
      refine r_iload_n C rfl dX7_setNow_27 ?_
      exact r_iret E dX7_setNow_28 (pZ_of hs)
    · intro i hi ih s z hs hz 
      refine r_iload_n C rfl dX7_setNow_4 ?_
      refine r_aload_n C rfl dX7_setNow_5 ?_
      refine r_geti C dX7_setNow_6 fl_X7_112 ly_48 rfl ?_
      refine r_icmp_ge C (tgt := 27) dX7_setNow_9 rfl (by first | assumption | exact rgm (by omega) (by omega)) (by first | assumption | exact rgm (by omega) (by omega)) (fun h9 => absurd h9 (by omega)) (fun h9 => ?_)
      refine r_iload_n C rfl dX7_setNow_12 ?_
      refine r_aload_n C rfl dX7_setNow_13 ?_
      refine r_getr C dX7_setNow_14 fl_X7_25 ly_48 rfl ?_
      refine r_iload_n C rfl dX7_setNow_17 ?_
      refine r_iald C dX7_setNow_18 ly_54 hz (by omega) ?_
      refine r_iadd C dX7_setNow_19 ?_
      refine r_istore_n C dX7_setNow_20 1 rfl (by decide) rfl ?_
      dsimp only [List.set, Nat.reduceAdd]
      refine r_iinc C dX7_setNow_21 rfl (by decide) rfl ?_
      dsimp only [List.set, Nat.reduceAdd]
      refine r_goto C (tgt := 4) dX7_setNow_24 rfl ?_
      exact ih _ _ (by rw [hs]; rfl) (by omega)
  refine r_iconst C dX7_setNow_0 ?_
  refine r_istore_n C dX7_setNow_1 1 rfl (by decide) rfl ?_
  dsimp only [List.set, Nat.reduceAdd]
  refine r_iconst C dX7_setNow_2 ?_
  refine r_istore_n C dX7_setNow_3 2 rfl (by decide) rfl ?_
  dsimp only [List.set, Nat.reduceAdd]
  exact lp 0 (Nat.zero_le _) _ _ rfl rfl
set_option maxRecDepth 10000 in
set_option maxHeartbeats 1000000 in
theorem c_fullBottlesM (M : Mm_) (hbo : ∀ i, i < 4 → 0 ≤ M.1 55 i ∧ M.1 55 i ≤ 99) : Cn 0 kX7_fullBottles [.ref 48] M (pZ (sm (fun i => if 0 < M.1 55 i then 1 else 0) 4) M) := by
  refine Cn.of rfl (Nat.le_of_ble_eq_true rfl) (fun G C E => ?_)
  show G 0 [.ref 48, .null, .null] [] M
  have lp : ∀ i : Nat, i ≤ 4 → ∀ s z : Int, s = sm (fun i => if 0 < M.1 55 i then 1 else 0) i → z = i → G 4 [.ref 48, .int (zI s), .int (zI z)] [] M := by
    refine lpN 4 ?_ ?_
    · intro s z hs hz 
      refine r_iload_n C rfl dX7_fullBottles_4 ?_
      refine r_iconst C dX7_fullBottles_5 ?_
      refine r_icmp_ge C (tgt := 32) dX7_fullBottles_6 rfl (by first | assumption | exact rgm (by omega) (by omega)) (by first | assumption | exact rgm (by omega) (by omega)) (fun h6 => ?_) (fun h6 => absurd h6 (by omega))
      refine r_iload_n C rfl dX7_fullBottles_32 ?_
      exact r_iret E dX7_fullBottles_33 (pZ_of hs)
    · intro i hi ih s z hs hz 
      have hb9 := hbo i (by omega)
      refine r_iload_n C rfl dX7_fullBottles_4 ?_
      refine r_iconst C dX7_fullBottles_5 ?_
      refine r_icmp_ge C (tgt := 32) dX7_fullBottles_6 rfl (by first | assumption | exact rgm (by omega) (by omega)) (by first | assumption | exact rgm (by omega) (by omega)) (fun h6 => absurd h6 (by omega)) (fun h6 => ?_)
      refine r_iload_n C rfl dX7_fullBottles_9 ?_
      refine r_aload_n C rfl dX7_fullBottles_10 ?_
      refine r_getr C dX7_fullBottles_11 fl_X7_28 ly_48 rfl ?_
      refine r_iload_n C rfl dX7_fullBottles_14 ?_
      refine r_iald C dX7_fullBottles_15 ly_55 hz (by omega) ?_
      refine r_if_le C (tgt := 23) dX7_fullBottles_16 rfl (by first | assumption | exact rgm (by omega) (by omega)) (fun h16 => ?_) (fun h16 => ?_)
      · refine r_iconst C dX7_fullBottles_23 ?_
        refine r_iadd C dX7_fullBottles_24 ?_
        refine r_istore_n C dX7_fullBottles_25 1 rfl (by decide) rfl ?_
        dsimp only [List.set, Nat.reduceAdd]
        refine r_iinc C dX7_fullBottles_26 rfl (by decide) rfl ?_
        dsimp only [List.set, Nat.reduceAdd]
        refine r_goto C (tgt := 4) dX7_fullBottles_29 rfl ?_
        exact ih _ _ (by show _ = sm (fun i => if 0 < M.1 55 i then 1 else 0) i + (if 0 < M.1 55 i then 1 else 0); rw [hs, if_neg (by omega)]) (by omega)
      · refine r_iconst C dX7_fullBottles_19 ?_
        refine r_goto C (tgt := 24) dX7_fullBottles_20 rfl ?_
        refine r_iadd C dX7_fullBottles_24 ?_
        refine r_istore_n C dX7_fullBottles_25 1 rfl (by decide) rfl ?_
        dsimp only [List.set, Nat.reduceAdd]
        refine r_iinc C dX7_fullBottles_26 rfl (by decide) rfl ?_
        dsimp only [List.set, Nat.reduceAdd]
        refine r_goto C (tgt := 4) dX7_fullBottles_29 rfl ?_
        exact ih _ _ (by show _ = sm (fun i => if 0 < M.1 55 i then 1 else 0) i + (if 0 < M.1 55 i then 1 else 0); rw [hs, if_pos (by omega)]) (by omega)
  refine r_iconst C dX7_fullBottles_0 ?_
  refine r_istore_n C dX7_fullBottles_1 1 rfl (by decide) rfl ?_
  dsimp only [List.set, Nat.reduceAdd]
  refine r_iconst C dX7_fullBottles_2 ?_
  refine r_istore_n C dX7_fullBottles_3 2 rfl (by decide) rfl ?_
  dsimp only [List.set, Nat.reduceAdd]
  exact lp 0 (Nat.zero_le _) _ _ rfl rfl

def vCountM (M : Mm_) (w : Int) : Int := if w = 0 then M.1 48 3 else if w = 1 then M.1 48 4 else if w = 2 then sm (M.1 52) (M.1 48 3).toNat else if w = 3 then sm (M.1 54) (M.1 48 4).toNat else if w = 4 then ob (wonM M) else if w = 5 then sm (fun i => if 0 < M.1 55 i then 1 else 0) 4 else if w = 6 then M.1 48 8 else if w = 7 then M.1 48 5 else if w = 8 then M.1 48 6 else if w = 9 then M.1 48 7 else if w = 10 then M.1 48 22 else if w = 11 then M.1 48 1 else if w = 12 then M.1 48 9 else if w = 13 then M.1 48 18 else if w = 14 then M.1 48 21 else -102

set_option maxRecDepth 10000 in
set_option maxHeartbeats 1000000 in
theorem c_countMore (M : Mm_) {w : Int} (rw_ : rg w) (hw : w < 0 ∨ 7 < w) : Cn 0 kX7_countMore [.ref 48, .int (zI w)] M (pZ (vCountM M w) M) := by
  refine Cn.of rfl (Nat.le_of_ble_eq_true rfl) (fun G C E => ?_)
  show G 0 [.ref 48, .int (zI w)] [] M
  refine r_iload_n C rfl dX7_countMore_0 ?_
  by_cases hout : w < 8 ∨ 14 < w
  · refine r_tout C (tgt := 79) dX7_countMore_1 (by first | assumption | exact rgm (by omega) (by omega)) hout rfl ?_
    refine r_bipush C rfl dX7_countMore_79 ?_
    exact r_iret E dX7_countMore_81 (pZ_of (by unfold vCountM; rw [if_neg (by omega), if_neg (by omega), if_neg (by omega), if_neg (by omega), if_neg (by omega), if_neg (by omega), if_neg (by omega), if_neg (by omega), if_neg (by omega), if_neg (by omega), if_neg (by omega), if_neg (by omega), if_neg (by omega), if_neg (by omega), if_neg (by omega)]))
  · rcases (show w = 8 ∨ w = 9 ∨ w = 10 ∨ w = 11 ∨ w = 12 ∨ w = 13 ∨ w = 14 by omega) with hsw | hsw | hsw | hsw | hsw | hsw | hsw
    · have hsw2 := hsw
      subst hsw
      refine r_tin C (tgt := 44) dX7_countMore_1 (by first | assumption | exact rgm (by omega) (by omega)) (by omega) (by omega) (off := 43) rfl rfl ?_
      refine r_aload_n C rfl dX7_countMore_44 ?_
      refine r_geti C dX7_countMore_45 fl_X7_118 ly_48 rfl ?_
      exact r_iret E dX7_countMore_48 (pZ_of (by unfold vCountM; rw [if_neg (by decide), if_neg (by decide), if_neg (by decide), if_neg (by decide), if_neg (by decide), if_neg (by decide), if_neg (by decide), if_neg (by decide), if_pos rfl]))
    · have hsw2 := hsw
      subst hsw
      refine r_tin C (tgt := 49) dX7_countMore_1 (by first | assumption | exact rgm (by omega) (by omega)) (by omega) (by omega) (off := 48) rfl rfl ?_
      refine r_aload_n C rfl dX7_countMore_49 ?_
      refine r_geti C dX7_countMore_50 fl_X7_121 ly_48 rfl ?_
      exact r_iret E dX7_countMore_53 (pZ_of (by unfold vCountM; rw [if_neg (by decide), if_neg (by decide), if_neg (by decide), if_neg (by decide), if_neg (by decide), if_neg (by decide), if_neg (by decide), if_neg (by decide), if_neg (by decide), if_pos rfl]))
    · have hsw2 := hsw
      subst hsw
      refine r_tin C (tgt := 54) dX7_countMore_1 (by first | assumption | exact rgm (by omega) (by omega)) (by omega) (by omega) (off := 53) rfl rfl ?_
      refine r_aload_n C rfl dX7_countMore_54 ?_
      refine r_geti C dX7_countMore_55 fl_X7_127 ly_48 rfl ?_
      exact r_iret E dX7_countMore_58 (pZ_of (by unfold vCountM; rw [if_neg (by decide), if_neg (by decide), if_neg (by decide), if_neg (by decide), if_neg (by decide), if_neg (by decide), if_neg (by decide), if_neg (by decide), if_neg (by decide), if_neg (by decide), if_pos rfl]))
    · have hsw2 := hsw
      subst hsw
      refine r_tin C (tgt := 59) dX7_countMore_1 (by first | assumption | exact rgm (by omega) (by omega)) (by omega) (by omega) (off := 58) rfl rfl ?_
      refine r_aload_n C rfl dX7_countMore_59 ?_
      refine r_geti C dX7_countMore_60 fl_X7_80 ly_48 rfl ?_
      exact r_iret E dX7_countMore_63 (pZ_of (by unfold vCountM; rw [if_neg (by decide), if_neg (by decide), if_neg (by decide), if_neg (by decide), if_neg (by decide), if_neg (by decide), if_neg (by decide), if_neg (by decide), if_neg (by decide), if_neg (by decide), if_neg (by decide), if_pos rfl]))
    · have hsw2 := hsw
      subst hsw
      refine r_tin C (tgt := 64) dX7_countMore_1 (by first | assumption | exact rgm (by omega) (by omega)) (by omega) (by omega) (off := 63) rfl rfl ?_
      refine r_aload_n C rfl dX7_countMore_64 ?_
      refine r_geti C dX7_countMore_65 fl_X7_130 ly_48 rfl ?_
      exact r_iret E dX7_countMore_68 (pZ_of (by unfold vCountM; rw [if_neg (by decide), if_neg (by decide), if_neg (by decide), if_neg (by decide), if_neg (by decide), if_neg (by decide), if_neg (by decide), if_neg (by decide), if_neg (by decide), if_neg (by decide), if_neg (by decide), if_neg (by decide), if_pos rfl]))
    · have hsw2 := hsw
      subst hsw
      refine r_tin C (tgt := 69) dX7_countMore_1 (by first | assumption | exact rgm (by omega) (by omega)) (by omega) (by omega) (off := 68) rfl rfl ?_
      refine r_aload_n C rfl dX7_countMore_69 ?_
      refine r_geti C dX7_countMore_70 fl_X7_253 ly_48 rfl ?_
      exact r_iret E dX7_countMore_73 (pZ_of (by unfold vCountM; rw [if_neg (by decide), if_neg (by decide), if_neg (by decide), if_neg (by decide), if_neg (by decide), if_neg (by decide), if_neg (by decide), if_neg (by decide), if_neg (by decide), if_neg (by decide), if_neg (by decide), if_neg (by decide), if_neg (by decide), if_pos rfl]))
    · have hsw2 := hsw
      subst hsw
      refine r_tin C (tgt := 74) dX7_countMore_1 (by first | assumption | exact rgm (by omega) (by omega)) (by omega) (by omega) (off := 73) rfl rfl ?_
      refine r_aload_n C rfl dX7_countMore_74 ?_
      refine r_geti C dX7_countMore_75 fl_X7_262 ly_48 rfl ?_
      exact r_iret E dX7_countMore_78 (pZ_of (by unfold vCountM; rw [if_neg (by decide), if_neg (by decide), if_neg (by decide), if_neg (by decide), if_neg (by decide), if_neg (by decide), if_neg (by decide), if_neg (by decide), if_neg (by decide), if_neg (by decide), if_neg (by decide), if_neg (by decide), if_neg (by decide), if_neg (by decide), if_pos rfl]))
set_option maxRecDepth 10000 in
set_option maxHeartbeats 1000000 in
theorem c_countOf (M : Mm_) {w : Int} (rw_ : rg w) (hM : oM M) : Cn 4 kX7_countOf [.ref 48, .int (zI w)] M (pZ (vCountM M w) M) := by
  obtain ⟨hpg, hv, hrw, hf, hg, hse, hbo, hst, hni⟩ := hM
  have hv0 : (M.1 48 3 = 0 ∧ M.1 48 4 = 0) ∨ (2 ≤ M.1 48 3 ∧ M.1 48 3 ≤ 4 ∧ 2 ≤ M.1 48 4 ∧ M.1 48 4 ≤ 6) := hv
  have hWb := WDc_b (M.1 53) (fM M 52 true) (M.1 48 4).toNat (by omega)
  refine Cn.of rfl (Nat.le_of_ble_eq_true rfl) (fun G C E => ?_)
  show G 0 [.ref 48, .int (zI w)] [] M
  refine r_iload_n C rfl dX7_countOf_0 ?_
  by_cases hout : w < 0 ∨ 7 < w
  · refine r_tout C (tgt := 95) dX7_countOf_1 (by first | assumption | exact rgm (by omega) (by omega)) hout rfl ?_
    refine r_aload_n C rfl dX7_countOf_95 ?_
    refine r_iload_n C rfl dX7_countOf_96 ?_
    refine r_cVz C dX7_countOf_97 vw_X7_313 (c_countMore M rw_ hout) (by decide) rfl ly_48 rfl rfl (Nat.le_of_ble_eq_true rfl) ?_
    exact r_iret E dX7_countOf_100 (pZ_of rfl)
  · rcases (show w = 0 ∨ w = 1 ∨ w = 2 ∨ w = 3 ∨ w = 4 ∨ w = 5 ∨ w = 6 ∨ w = 7 by omega) with hsw | hsw | hsw | hsw | hsw | hsw | hsw | hsw
    · have hsw2 := hsw
      subst hsw
      refine r_tin C (tgt := 48) dX7_countOf_1 (by first | assumption | exact rgm (by omega) (by omega)) (by omega) (by omega) (off := 47) rfl rfl ?_
      refine r_aload_n C rfl dX7_countOf_48 ?_
      refine r_geti C dX7_countOf_49 fl_X7_109 ly_48 rfl ?_
      exact r_iret E dX7_countOf_52 (pZ_of (by unfold vCountM; rw [if_pos rfl]))
    · have hsw2 := hsw
      subst hsw
      refine r_tin C (tgt := 53) dX7_countOf_1 (by first | assumption | exact rgm (by omega) (by omega)) (by omega) (by omega) (off := 52) rfl rfl ?_
      refine r_aload_n C rfl dX7_countOf_53 ?_
      refine r_geti C dX7_countOf_54 fl_X7_112 ly_48 rfl ?_
      exact r_iret E dX7_countOf_57 (pZ_of (by unfold vCountM; rw [if_neg (by decide), if_pos rfl]))
    · have hsw2 := hsw
      subst hsw
      refine r_tin C (tgt := 58) dX7_countOf_1 (by first | assumption | exact rgm (by omega) (by omega)) (by omega) (by omega) (off := 57) rfl rfl ?_
      refine r_aload_n C rfl dX7_countOf_58 ?_
      refine r_aload_n C rfl dX7_countOf_59 ?_
      refine r_getr C dX7_countOf_60 fl_X7_19 ly_48 rfl ?_
      refine r_cVz C dX7_countOf_63 vw_X7_288 (c_sumPeople M ly_52 (by omega)) (by decide) rfl ly_48 rfl rfl (Nat.le_of_ble_eq_true rfl) ?_
      exact r_iret E dX7_countOf_66 (pZ_of (by unfold vCountM; rw [if_neg (by decide), if_neg (by decide), if_pos rfl]))
    · have hsw2 := hsw
      subst hsw
      refine r_tin C (tgt := 67) dX7_countOf_1 (by first | assumption | exact rgm (by omega) (by omega)) (by omega) (by omega) (off := 66) rfl rfl ?_
      refine r_aload_n C rfl dX7_countOf_67 ?_
      refine r_cVz C dX7_countOf_68 vw_X7_307 (c_setNow M hv) (by decide) rfl ly_48 rfl rfl (Nat.le_of_ble_eq_true rfl) ?_
      exact r_iret E dX7_countOf_71 (pZ_of (by unfold vCountM; rw [if_neg (by decide), if_neg (by decide), if_neg (by decide), if_pos rfl]))
    · have hsw2 := hsw
      subst hsw
      refine r_tin C (tgt := 72) dX7_countOf_1 (by first | assumption | exact rgm (by omega) (by omega)) (by omega) (by omega) (off := 71) rfl rfl ?_
      refine r_aload_n C rfl dX7_countOf_72 ?_
      refine r_cVz C dX7_countOf_73 vw_X7_166 (c_wouldNow M hv hf hg) (by decide) rfl ly_48 rfl rfl (Nat.le_of_ble_eq_true rfl) ?_
      refine r_cSz C dX7_countOf_76 sw_X7_169 (c_ones M hWb.1 (by omega)) (by decide) rfl rfl (Nat.le_of_ble_eq_true rfl) ?_
      exact r_iret E dX7_countOf_79 (pZ_of (by unfold vCountM; rw [if_neg (by decide), if_neg (by decide), if_neg (by decide), if_neg (by decide), if_pos rfl]; rfl))
    · have hsw2 := hsw
      subst hsw
      refine r_tin C (tgt := 80) dX7_countOf_1 (by first | assumption | exact rgm (by omega) (by omega)) (by omega) (by omega) (off := 79) rfl rfl ?_
      refine r_aload_n C rfl dX7_countOf_80 ?_
      refine r_cVz C dX7_countOf_81 vw_X7_310 (c_fullBottlesM M hbo) (by decide) rfl ly_48 rfl rfl (Nat.le_of_ble_eq_true rfl) ?_
      exact r_iret E dX7_countOf_84 (pZ_of (by unfold vCountM; rw [if_neg (by decide), if_neg (by decide), if_neg (by decide), if_neg (by decide), if_neg (by decide), if_pos rfl]))
    · have hsw2 := hsw
      subst hsw
      refine r_tin C (tgt := 85) dX7_countOf_1 (by first | assumption | exact rgm (by omega) (by omega)) (by omega) (by omega) (off := 84) rfl rfl ?_
      refine r_aload_n C rfl dX7_countOf_85 ?_
      refine r_geti C dX7_countOf_86 fl_X7_124 ly_48 rfl ?_
      exact r_iret E dX7_countOf_89 (pZ_of (by unfold vCountM; rw [if_neg (by decide), if_neg (by decide), if_neg (by decide), if_neg (by decide), if_neg (by decide), if_neg (by decide), if_pos rfl]))
    · have hsw2 := hsw
      subst hsw
      refine r_tin C (tgt := 90) dX7_countOf_1 (by first | assumption | exact rgm (by omega) (by omega)) (by omega) (by omega) (off := 89) rfl rfl ?_
      refine r_aload_n C rfl dX7_countOf_90 ?_
      refine r_geti C dX7_countOf_91 fl_X7_115 ly_48 rfl ?_
      exact r_iret E dX7_countOf_94 (pZ_of (by unfold vCountM; rw [if_neg (by decide), if_neg (by decide), if_neg (by decide), if_neg (by decide), if_neg (by decide), if_neg (by decide), if_neg (by decide), if_pos rfl]))
set_option maxRecDepth 10000 in
set_option maxHeartbeats 1000000 in
theorem c_m_count (M : Mm_) {w : Int} (rw_ : rg w) (hM : oM M) : Cn 5 kX7_count [.ref 48, .int (zI w)] M (pS (vCountM M w) M) := by
  refine Cn.of rfl (Nat.le_of_ble_eq_true rfl) (fun G C E => ?_)
  show G 0 [.ref 48, .int (zI w)] [] M
  refine r_aload_n C rfl dX7_count_0 ?_
  refine r_iload_n C rfl dX7_count_1 ?_
  refine r_cVz C dX7_count_2 vw_X7_316 (c_countOf M rw_ hM) (by decide) rfl ly_48 rfl rfl (Nat.le_of_ble_eq_true rfl) ?_
  exact r_iret E dX7_count_5 ⟨rfl, mS_rf⟩

def imgP (M U : Mm_) : Prop := U.1 62 = M.1 50 ∧ U.1 63 = M.1 51 ∧ U.1 64 = M.1 52 ∧ U.1 65 = M.1 54 ∧ U.1 66 = M.1 55 ∧ U.1 67 = M.1 56 ∧ U.1 68 = M.1 60 ∧ (∀ i, ¬ (62 ≤ i ∧ i ≤ 68) → i ≠ 48 → U.1 i = M.1 i) ∧ (∀ j, U.1 48 j = if j = 27 then M.1 48 5 else if j = 28 then M.1 48 6 else if j = 29 then M.1 48 7 else if j = 30 then M.1 48 8 else if j = 31 then M.1 48 22 else if j = 26 then M.1 48 9 else M.1 48 j)
def resP (M U : Mm_) : Prop := U.1 50 = M.1 62 ∧ U.1 51 = M.1 63 ∧ U.1 52 = M.1 64 ∧ U.1 54 = M.1 65 ∧ U.1 55 = M.1 66 ∧ U.1 56 = M.1 67 ∧ U.1 60 = M.1 68 ∧ (∀ i, ¬ (i = 50 ∨ i = 51 ∨ i = 52 ∨ i = 54 ∨ i = 55 ∨ i = 56 ∨ i = 60) → i ≠ 48 → U.1 i = M.1 i) ∧ (∀ j, U.1 48 j = if j = 5 then M.1 48 27 else if j = 6 then M.1 48 28 else if j = 7 then M.1 48 29 else if j = 8 then M.1 48 30 else if j = 22 then M.1 48 31 else M.1 48 j)

set_option maxRecDepth 10000 in
set_option maxHeartbeats 1000000 in
theorem c_m_image (M : Mm_) (hM : oM M) : Cn 1 kX7_image [.ref 48] M (fun r U => r = some (.int (zI (if 0 < M.1 48 3 then M.1 48 5 else -103))) ∧ (0 < M.1 48 3 → imgP M U) ∧ (¬ 0 < M.1 48 3 → mS M U)) := by
  obtain ⟨hpg, hv, hrw, hf, hg, hse, hbo, hst, hni⟩ := hM
  have hv0 : (M.1 48 3 = 0 ∧ M.1 48 4 = 0) ∨ (2 ≤ M.1 48 3 ∧ M.1 48 3 ≤ 4 ∧ 2 ≤ M.1 48 4 ∧ M.1 48 4 ≤ 6) := hv
  refine Cn.of rfl (Nat.le_of_ble_eq_true rfl) (fun G C E => ?_)
  show G 0 [.ref 48] [] M
  refine r_aload_n C rfl dX7_image_0 ?_
  refine r_cVb C dX7_image_1 vw_X7_133 (c_lacks M hv) (by decide) rfl ly_48 rfl rfl (Nat.le_of_ble_eq_true rfl) (fun h1 => ?_) (fun h1 => ?_)
  · refine r_if_eq C (tgt := 10) dX7_image_4 rfl (by first | assumption | exact rgm (by omega) (by omega)) (fun h4 => absurd h4 (by decide)) (fun h4 => ?_)
    refine r_bipush C rfl dX7_image_7 ?_
    exact r_iret E dX7_image_9 ⟨by rw [if_neg (by omega)], fun h => absurd h (by omega), fun _ => mS_rf⟩
  · refine r_if_eq C (tgt := 10) dX7_image_4 rfl (by first | assumption | exact rgm (by omega) (by omega)) (fun h4 => ?_) (fun h4 => absurd h4 (by decide))
    refine r_aload_n C rfl dX7_image_10 ?_
    refine r_getr C dX7_image_11 fl_X7_13 ly_48 rfl ?_
    refine r_aload_n C rfl dX7_image_14 ?_
    refine r_getr C dX7_image_15 fl_X7_49 ly_48 rfl ?_
    refine r_cSv C dX7_image_18 sw_X7_205 (c_copyM _ (a := 50) (b := 62) (by decide) ly_50 ly_62) (by decide) rfl rfl (Nat.le_of_ble_eq_true rfl) ?_
    refine r_aload_n C rfl dX7_image_21 ?_
    refine r_getr C dX7_image_22 fl_X7_16 ly_48 rfl ?_
    refine r_aload_n C rfl dX7_image_25 ?_
    refine r_getr C dX7_image_26 fl_X7_52 ly_48 rfl ?_
    refine r_cSv C dX7_image_29 sw_X7_205 (c_copyM _ (a := 51) (b := 63) (by decide) ly_51 ly_63) (by decide) rfl rfl (Nat.le_of_ble_eq_true rfl) ?_
    refine r_aload_n C rfl dX7_image_32 ?_
    refine r_getr C dX7_image_33 fl_X7_19 ly_48 rfl ?_
    refine r_aload_n C rfl dX7_image_36 ?_
    refine r_getr C dX7_image_37 fl_X7_55 ly_48 rfl ?_
    refine r_cSv C dX7_image_40 sw_X7_205 (c_copyM _ (a := 52) (b := 64) (by decide) ly_52 ly_64) (by decide) rfl rfl (Nat.le_of_ble_eq_true rfl) ?_
    refine r_aload_n C rfl dX7_image_43 ?_
    refine r_getr C dX7_image_44 fl_X7_25 ly_48 rfl ?_
    refine r_aload_n C rfl dX7_image_47 ?_
    refine r_getr C dX7_image_48 fl_X7_58 ly_48 rfl ?_
    refine r_cSv C dX7_image_51 sw_X7_205 (c_copyM _ (a := 54) (b := 65) (by decide) ly_54 ly_65) (by decide) rfl rfl (Nat.le_of_ble_eq_true rfl) ?_
    refine r_aload_n C rfl dX7_image_54 ?_
    refine r_getr C dX7_image_55 fl_X7_28 ly_48 rfl ?_
    refine r_aload_n C rfl dX7_image_58 ?_
    refine r_getr C dX7_image_59 fl_X7_61 ly_48 rfl ?_
    refine r_cSv C dX7_image_62 sw_X7_205 (c_copyM _ (a := 55) (b := 66) (by decide) ly_55 ly_66) (by decide) rfl rfl (Nat.le_of_ble_eq_true rfl) ?_
    refine r_aload_n C rfl dX7_image_65 ?_
    refine r_getr C dX7_image_66 fl_X7_31 ly_48 rfl ?_
    refine r_aload_n C rfl dX7_image_69 ?_
    refine r_getr C dX7_image_70 fl_X7_64 ly_48 rfl ?_
    refine r_cSv C dX7_image_73 sw_X7_205 (c_copyM _ (a := 56) (b := 67) (by decide) ly_56 ly_67) (by decide) rfl rfl (Nat.le_of_ble_eq_true rfl) ?_
    refine r_aload_n C rfl dX7_image_76 ?_
    refine r_getr C dX7_image_77 fl_X7_43 ly_48 rfl ?_
    refine r_aload_n C rfl dX7_image_80 ?_
    refine r_getr C dX7_image_81 fl_X7_67 ly_48 rfl ?_
    refine r_cSv C dX7_image_84 sw_X7_205 (c_copyM _ (a := 60) (b := 68) (by decide) ly_60 ly_68) (by decide) rfl rfl (Nat.le_of_ble_eq_true rfl) ?_
    refine r_aload_n C rfl dX7_image_87 ?_
    refine r_aload_n C rfl dX7_image_88 ?_
    refine r_geti C dX7_image_89 fl_X7_115 ly_48 rfl ?_
    refine r_put C dX7_image_92 fl_X7_292 rfl (Or.inl rfl) ly_48 rfl ?_
    refine r_aload_n C rfl dX7_image_95 ?_
    refine r_aload_n C rfl dX7_image_96 ?_
    refine r_geti C dX7_image_97 fl_X7_118 ly_48 rfl ?_
    refine r_put C dX7_image_100 fl_X7_295 rfl (Or.inl rfl) ly_48 rfl ?_
    refine r_aload_n C rfl dX7_image_103 ?_
    refine r_aload_n C rfl dX7_image_104 ?_
    refine r_geti C dX7_image_105 fl_X7_121 ly_48 rfl ?_
    refine r_put C dX7_image_108 fl_X7_298 rfl (Or.inl rfl) ly_48 rfl ?_
    refine r_aload_n C rfl dX7_image_111 ?_
    refine r_aload_n C rfl dX7_image_112 ?_
    refine r_geti C dX7_image_113 fl_X7_124 ly_48 rfl ?_
    refine r_put C dX7_image_116 fl_X7_301 rfl (Or.inl rfl) ly_48 rfl ?_
    refine r_aload_n C rfl dX7_image_119 ?_
    refine r_aload_n C rfl dX7_image_120 ?_
    refine r_geti C dX7_image_121 fl_X7_127 ly_48 rfl ?_
    refine r_put C dX7_image_124 fl_X7_304 rfl (Or.inl rfl) ly_48 rfl ?_
    refine r_aload_n C rfl dX7_image_127 ?_
    refine r_aload_n C rfl dX7_image_128 ?_
    refine r_geti C dX7_image_129 fl_X7_130 ly_48 rfl ?_
    refine r_put C dX7_image_132 fl_X7_70 rfl (Or.inl rfl) ly_48 rfl ?_
    refine r_aload_n C rfl dX7_image_135 ?_
    refine r_geti C dX7_image_136 fl_X7_115 ly_48 rfl ?_
    exact r_iret E dX7_image_139 (by
    refine ⟨by rw [if_pos (by omega)]; simp [mU, mR], fun _ => ?_, fun h => absurd h (by omega)⟩
    refine ⟨?_, ?_, ?_, ?_, ?_, ?_, ?_, fun i h1 h2 => ?_, fun j => ?_⟩
    · funext y; simp [mU, mR]
    · funext y; simp [mU, mR]
    · funext y; simp [mU, mR]
    · funext y; simp [mU, mR]
    · funext y; simp [mU, mR]
    · funext y; simp [mU, mR]
    · funext y; simp [mU, mR]
    · funext y
      have q62 : i ≠ 62 := by omega
      have q63 : i ≠ 63 := by omega
      have q64 : i ≠ 64 := by omega
      have q65 : i ≠ 65 := by omega
      have q66 : i ≠ 66 := by omega
      have q67 : i ≠ 67 := by omega
      have q68 : i ≠ 68 := by omega
      simp [mU, mR, h2, q62, q63, q64, q65, q66, q67, q68]
    · simp [mU, mR]
      by_cases c26 : j = 26
      · simp [c26]
      · by_cases c31 : j = 31
        · simp [c31]
        · by_cases c30 : j = 30
          · simp [c30]
          · by_cases c29 : j = 29
            · simp [c29]
            · by_cases c28 : j = 28
              · simp [c28]
              · simp [c26, c28, c29, c30, c31])
set_option maxRecDepth 10000 in
set_option maxHeartbeats 1000000 in
theorem c_m_restore (M : Mm_) (r1 : rg (M.1 48 26)) (r2 : rg (M.1 48 9)) : Cn 1 kX7_restore [.ref 48] M (fun r U => r = some (.int (zI (if M.1 48 26 = M.1 48 9 then M.1 48 27 else -103))) ∧ (M.1 48 26 = M.1 48 9 → resP M U) ∧ (¬ M.1 48 26 = M.1 48 9 → mS M U)) := by
  refine Cn.of rfl (Nat.le_of_ble_eq_true rfl) (fun G C E => ?_)
  show G 0 [.ref 48] [] M
  refine r_aload_n C rfl dX7_restore_0 ?_
  refine r_geti C dX7_restore_1 fl_X7_70 ly_48 rfl ?_
  refine r_aload_n C rfl dX7_restore_4 ?_
  refine r_geti C dX7_restore_5 fl_X7_130 ly_48 rfl ?_
  refine r_icmp_eq C (tgt := 14) dX7_restore_8 rfl (by first | assumption | exact rgm (by omega) (by omega)) (by first | assumption | exact rgm (by omega) (by omega)) (fun h8 => ?_) (fun h8 => ?_)
  · refine r_aload_n C rfl dX7_restore_14 ?_
    refine r_getr C dX7_restore_15 fl_X7_49 ly_48 rfl ?_
    refine r_aload_n C rfl dX7_restore_18 ?_
    refine r_getr C dX7_restore_19 fl_X7_13 ly_48 rfl ?_
    refine r_cSv C dX7_restore_22 sw_X7_205 (c_copyM _ (a := 62) (b := 50) (by decide) ly_62 ly_50) (by decide) rfl rfl (Nat.le_of_ble_eq_true rfl) ?_
    refine r_aload_n C rfl dX7_restore_25 ?_
    refine r_getr C dX7_restore_26 fl_X7_52 ly_48 rfl ?_
    refine r_aload_n C rfl dX7_restore_29 ?_
    refine r_getr C dX7_restore_30 fl_X7_16 ly_48 rfl ?_
    refine r_cSv C dX7_restore_33 sw_X7_205 (c_copyM _ (a := 63) (b := 51) (by decide) ly_63 ly_51) (by decide) rfl rfl (Nat.le_of_ble_eq_true rfl) ?_
    refine r_aload_n C rfl dX7_restore_36 ?_
    refine r_getr C dX7_restore_37 fl_X7_55 ly_48 rfl ?_
    refine r_aload_n C rfl dX7_restore_40 ?_
    refine r_getr C dX7_restore_41 fl_X7_19 ly_48 rfl ?_
    refine r_cSv C dX7_restore_44 sw_X7_205 (c_copyM _ (a := 64) (b := 52) (by decide) ly_64 ly_52) (by decide) rfl rfl (Nat.le_of_ble_eq_true rfl) ?_
    refine r_aload_n C rfl dX7_restore_47 ?_
    refine r_getr C dX7_restore_48 fl_X7_58 ly_48 rfl ?_
    refine r_aload_n C rfl dX7_restore_51 ?_
    refine r_getr C dX7_restore_52 fl_X7_25 ly_48 rfl ?_
    refine r_cSv C dX7_restore_55 sw_X7_205 (c_copyM _ (a := 65) (b := 54) (by decide) ly_65 ly_54) (by decide) rfl rfl (Nat.le_of_ble_eq_true rfl) ?_
    refine r_aload_n C rfl dX7_restore_58 ?_
    refine r_getr C dX7_restore_59 fl_X7_61 ly_48 rfl ?_
    refine r_aload_n C rfl dX7_restore_62 ?_
    refine r_getr C dX7_restore_63 fl_X7_28 ly_48 rfl ?_
    refine r_cSv C dX7_restore_66 sw_X7_205 (c_copyM _ (a := 66) (b := 55) (by decide) ly_66 ly_55) (by decide) rfl rfl (Nat.le_of_ble_eq_true rfl) ?_
    refine r_aload_n C rfl dX7_restore_69 ?_
    refine r_getr C dX7_restore_70 fl_X7_64 ly_48 rfl ?_
    refine r_aload_n C rfl dX7_restore_73 ?_
    refine r_getr C dX7_restore_74 fl_X7_31 ly_48 rfl ?_
    refine r_cSv C dX7_restore_77 sw_X7_205 (c_copyM _ (a := 67) (b := 56) (by decide) ly_67 ly_56) (by decide) rfl rfl (Nat.le_of_ble_eq_true rfl) ?_
    refine r_aload_n C rfl dX7_restore_80 ?_
    refine r_getr C dX7_restore_81 fl_X7_67 ly_48 rfl ?_
    refine r_aload_n C rfl dX7_restore_84 ?_
    refine r_getr C dX7_restore_85 fl_X7_43 ly_48 rfl ?_
    refine r_cSv C dX7_restore_88 sw_X7_205 (c_copyM _ (a := 68) (b := 60) (by decide) ly_68 ly_60) (by decide) rfl rfl (Nat.le_of_ble_eq_true rfl) ?_
    refine r_aload_n C rfl dX7_restore_91 ?_
    refine r_aload_n C rfl dX7_restore_92 ?_
    refine r_geti C dX7_restore_93 fl_X7_292 ly_48 rfl ?_
    refine r_put C dX7_restore_96 fl_X7_115 rfl (Or.inl rfl) ly_48 rfl ?_
    refine r_aload_n C rfl dX7_restore_99 ?_
    refine r_aload_n C rfl dX7_restore_100 ?_
    refine r_geti C dX7_restore_101 fl_X7_295 ly_48 rfl ?_
    refine r_put C dX7_restore_104 fl_X7_118 rfl (Or.inl rfl) ly_48 rfl ?_
    refine r_aload_n C rfl dX7_restore_107 ?_
    refine r_aload_n C rfl dX7_restore_108 ?_
    refine r_geti C dX7_restore_109 fl_X7_298 ly_48 rfl ?_
    refine r_put C dX7_restore_112 fl_X7_121 rfl (Or.inl rfl) ly_48 rfl ?_
    refine r_aload_n C rfl dX7_restore_115 ?_
    refine r_aload_n C rfl dX7_restore_116 ?_
    refine r_geti C dX7_restore_117 fl_X7_301 ly_48 rfl ?_
    refine r_put C dX7_restore_120 fl_X7_124 rfl (Or.inl rfl) ly_48 rfl ?_
    refine r_aload_n C rfl dX7_restore_123 ?_
    refine r_aload_n C rfl dX7_restore_124 ?_
    refine r_geti C dX7_restore_125 fl_X7_304 ly_48 rfl ?_
    refine r_put C dX7_restore_128 fl_X7_127 rfl (Or.inl rfl) ly_48 rfl ?_
    refine r_aload_n C rfl dX7_restore_131 ?_
    refine r_geti C dX7_restore_132 fl_X7_115 ly_48 rfl ?_
    exact r_iret E dX7_restore_135 (by
    refine ⟨by rw [if_pos (by omega)]; simp [mU, mR], fun _ => ?_, fun h => absurd h (by omega)⟩
    refine ⟨?_, ?_, ?_, ?_, ?_, ?_, ?_, fun i h1 h2 => ?_, fun j => ?_⟩
    · funext y; simp [mU, mR]
    · funext y; simp [mU, mR]
    · funext y; simp [mU, mR]
    · funext y; simp [mU, mR]
    · funext y; simp [mU, mR]
    · funext y; simp [mU, mR]
    · funext y; simp [mU, mR]
    · funext y
      have q50 : i ≠ 50 := by omega
      have q51 : i ≠ 51 := by omega
      have q52 : i ≠ 52 := by omega
      have q54 : i ≠ 54 := by omega
      have q55 : i ≠ 55 := by omega
      have q56 : i ≠ 56 := by omega
      have q60 : i ≠ 60 := by omega
      simp [mU, mR, h2, q50, q51, q52, q54, q55, q56, q60]
    · simp [mU, mR]
      by_cases c22 : j = 22
      · simp [c22]
      · by_cases c8 : j = 8
        · simp [c8]
        · by_cases c7 : j = 7
          · simp [c7]
          · by_cases c6 : j = 6
            · simp [c6]
            · simp [c22, c8, c7, c6])
  · refine r_bipush C rfl dX7_restore_11 ?_
    exact r_iret E dX7_restore_13 ⟨by rw [if_neg (by omega)], fun h => absurd h (by omega), fun _ => mS_rf⟩
