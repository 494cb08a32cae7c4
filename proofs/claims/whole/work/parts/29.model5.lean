
def oM (M : Mm_) : Prop := oMp M ∧ oMv M ∧ oMr M ∧ oMf M ∧ oMg M 52 ∧ oMs M ∧ (∀ i, i < 4 → 0 ≤ M.1 55 i ∧ M.1 55 i ≤ 99) ∧ (∀ j, j < 6 → 0 ≤ M.1 54 j ∧ M.1 54 j ≤ 1) ∧ (0 ≤ M.1 48 5 ∧ M.1 48 5 ≤ 99)
def FM (M : Mm_) (g : Nat → Int) (dr : Bool) : Int → Int := fun q => fr (M.1 48 3).toNat g (M.1 51) q + (if dr then fr (M.1 48 8).toNat (pdM M) (ppM M) q else 0)
theorem FM_S {M T : Mm_} (h : mS M T) (g : Nat → Int) (dr : Bool) : FM T g dr = FM M g dr := by
  unfold FM pdM ppM
  rw [h.1 51 (by omega) (by omega) (by omega) (by omega) (by omega), h.1 56 (by omega) (by omega) (by omega) (by omega) (by omega), h.2.1 3 (by omega) (by omega), h.2.1 8 (by omega) (by omega)]
theorem oMv_S {M T : Mm_} (h : mS M T) (hv : oMv M) : oMv T := by
  unfold oMv at hv ⊢
  rw [h.2.1 3 (by omega) (by omega), h.2.1 4 (by omega) (by omega)]
  exact hv
theorem oMr_S {M T : Mm_} (h : mS M T) (hv : oMr M) : oMr T := by
  unfold oMr at hv ⊢
  rw [h.1 50 (by omega) (by omega) (by omega) (by omega) (by omega)]
  exact hv
theorem oMf_S {M T : Mm_} (h : mS M T) (hv : oMf M) : oMf T := by
  unfold oMf at hv ⊢
  rw [h.1 51 (by omega) (by omega) (by omega) (by omega) (by omega), h.1 56 (by omega) (by omega) (by omega) (by omega) (by omega), h.1 53 (by omega) (by omega) (by omega) (by omega) (by omega), h.2.1 8 (by omega) (by omega)]
  exact hv
theorem grM_S {M T : Mm_} (h : mS M T) : grM T = grM M := by
  unfold grM
  rw [h.1 50 (by omega) (by omega) (by omega) (by omega) (by omega)]
theorem kdM_S {M T : Mm_} (h : mS M T) : kdM T = kdM M := by
  unfold kdM
  rw [h.1 50 (by omega) (by omega) (by omega) (by omega) (by omega)]
def g99 (g : Nat → Int) : Prop := ∀ i, i < 4 → 0 ≤ g i ∧ g i ≤ 99
theorem grM_0 {M : Mm_} (h : oMr M) {q : Int} (hq : q < 12) : 0 ≤ q → 0 ≤ grM M q.toNat := fun h0 => by
  have := h (q.toNat / 3) (by omega)
  exact (gw_b this.2.1 this.2.2).1
theorem sl1_99 {M : Mm_} (h : oMr M) {q : Int} (hq : q < 12) {g : Nat → Int} (hg : g99 g) : g99 (sl1 (grM M) q g) := sl1_b hg (grM_0 h hq)
theorem nt_99 {kd : Nat → Int} {n : Nat} {g : Nat → Int} (hg : g99 g) : g99 (nt kd n g) := nt_b hg
theorem c_wouldW1 {T M : Mm_} {g : Nat → Int} (hS : mS M T) (hg : T.1 57 = g) (hv : oMv M) (hf : oMf M) (hb : g99 g) : Cn 2 kX7_wouldOn [.ref 48, .ref 57, .int (zI 1)] T (pZ (WDc (M.1 53) (FM M g true) (M.1 48 4).toNat) T) := by
  have h := c_wouldOn1 T ly_57 (oMv_S hS hv) (oMf_S hS hf) (by unfold oMg; rw [hg]; exact hb)
  rw [show fM T 57 true = FM T (T.1 57) true from rfl, hg, FM_S hS, hS.1 53 (by omega) (by omega) (by omega) (by omega) (by omega), hS.2.1 4 (by omega) (by omega)] at h
  exact h
theorem c_wouldW0 {T M : Mm_} {g : Nat → Int} (hS : mS M T) (hg : T.1 57 = g) (hv : oMv M) (hf : oMf M) (hb : g99 g) : Cn 2 kX7_wouldOn [.ref 48, .ref 57, .int (zI 0)] T (pZ (WDc (M.1 53) (FM M g false) (M.1 48 4).toNat) T) := by
  have h := c_wouldOn0 T ly_57 (oMv_S hS hv) (oMf_S hS hf) (by unfold oMg; rw [hg]; exact hb)
  rw [show fM T 57 false = FM T (T.1 57) false from rfl, hg, FM_S hS, hS.1 53 (by omega) (by omega) (by omega) (by omega) (by omega), hS.2.1 4 (by omega) (by omega)] at h
  exact h
theorem c_slightW {T M : Mm_} {g : Nat → Int} {q : Int} (hS : mS M T) (hg : T.1 57 = g) (h0 : -1 ≤ q) (h1 : q < 12) (hr : oMr M) (hb : g99 g) : Cn 1 kX7_slightOn [.ref 48, .ref 57, .int (zI q)] T (pV (mR T 57 (sl1 (grM M) q g))) := by
  have h := c_slightOn T ly_57 h0 h1 (oMr_S hS hr) (by rw [hg]; exact hb)
  rw [grM_S hS, hg] at h
  exact h
theorem c_nightW {T M : Mm_} {g : Nat → Int} (hS : mS M T) (hg : T.1 57 = g) (hv : oMv M) (hr : oMr M) (hb : g99 g) : Cn 0 kX7_nightOn [.ref 48, .ref 57] T (pV (mR T 57 (nt (kdM M) (M.1 48 3).toNat g))) := by
  have h := c_nightOn T ly_57 (by decide) (oMv_S hS hv) (oMr_S hS hr) (by unfold oMg; rw [hg]; exact hb)
  rw [kdM_S hS, hg, hS.2.1 3 (by omega) (by omega)] at h
  exact h
theorem c_copyW {T M : Mm_} (hS : mS M T) : Cn 0 kX7_copy [.ref 52, .ref 57] T (pV (mR T 57 (M.1 52))) := by
  have h := c_copyM T (a := 52) (b := 57) (by decide) ly_52 ly_57
  rw [hS.1 52 (by omega) (by omega) (by omega) (by omega) (by omega)] at h
  exact h
def vPerM (M : Mm_) (k : Nat) (w : Int) : Int := if 10 ≤ w ∧ w < 13 then tp (M.1 52 k + gw (kdM M k) (prM M k) (w - 10)) - M.1 52 k else if w = 0 then M.1 50 (3 * k) else if w = 1 then M.1 50 (3 * k + 1) else if w = 2 then M.1 51 k else if w = 3 then M.1 52 k else if w = 4 then M.1 50 (3 * k + 2) else if w = 5 then (stN (seatM M k) 6).1 else if w = 6 then (stN (seatM M k) 6).2 else if w = 7 then prM4 M k else if w = 8 then bTry (M.1 50 (3 * k)) (prM4 M k) else -102

set_option maxRecDepth 10000 in
set_option maxHeartbeats 1000000 in
theorem c_tellPerson (M : Mm_) {k : Nat} {w : Int} (hk : (k : Int) < M.1 48 3) (rw_ : rg w) (hM : oM M) : Cn 5 kX7_tellPerson [.ref 48, .int (zI (k : Int)), .int (zI w)] M (pS (vPerM M k w) M) := by
  have hM0 := hM
  obtain ⟨hpg, hv, hrw, hf, hg, hse, hbo, hst, hni⟩ := hM
  have hv0 : (M.1 48 3 = 0 ∧ M.1 48 4 = 0) ∨ (2 ≤ M.1 48 3 ∧ M.1 48 3 ≤ 4 ∧ 2 ≤ M.1 48 4 ∧ M.1 48 4 ≤ 6) := hv
  have rk : rg (k : Int) := rgm (by omega) (by omega)
  refine Cn.of rfl (Nat.le_of_ble_eq_true rfl) (fun G C E => ?_)
  show G 0 [.ref 48, .int (zI (k : Int)), .int (zI w)] [] M
  refine r_iload_n C rfl dX7_tellPerson_0 ?_
  refine r_i2l C dX7_tellPerson_1 ?_
  refine r_ldc2 C dX7_tellPerson_2 kc_X7_172 ?_
  refine r_ldc2 C dX7_tellPerson_5 kc_X7_174 ?_
  refine r_cSb C dX7_tellPerson_8 sw_X7_76 (c_inZ M (b := 10) (c := 12) rw_ rfl rfl) (by decide) rfl rfl (Nat.le_of_ble_eq_true rfl) (fun h8 => ?_) (fun h8 => ?_)
  · refine r_if_eq C (tgt := 24) dX7_tellPerson_11 rfl (by first | assumption | exact rgm (by omega) (by omega)) (fun h11 => absurd h11 (by decide)) (fun h11 => ?_)
    refine r_aload_n C rfl dX7_tellPerson_14 ?_
    refine r_iload_n C rfl dX7_tellPerson_15 ?_
    refine r_iload_n C rfl dX7_tellPerson_16 ?_
    refine r_bipush C rfl dX7_tellPerson_17 ?_
    refine r_isub C dX7_tellPerson_19 ?_
    refine r_cVz C dX7_tellPerson_20 vw_X7_176 (c_growsOf M hk (by omega) hv hrw hg) (by decide) rfl ly_48 rfl rfl (Nat.le_of_ble_eq_true rfl) ?_
    exact r_iret E dX7_tellPerson_23 ⟨by unfold vPerM; rw [if_pos (by omega)], mS_rf⟩
  · refine r_if_eq C (tgt := 24) dX7_tellPerson_11 rfl (by first | assumption | exact rgm (by omega) (by omega)) (fun h11 => ?_) (fun h11 => absurd h11 (by decide))
    refine r_iload_n C rfl dX7_tellPerson_24 ?_
    by_cases hout : w < 0 ∨ 8 < w
    · refine r_tout C (tgt := 131) dX7_tellPerson_25 (by first | assumption | exact rgm (by omega) (by omega)) hout rfl ?_
      refine r_bipush C rfl dX7_tellPerson_131 ?_
      exact r_iret E dX7_tellPerson_133 ⟨by unfold vPerM; rw [if_neg (by omega), if_neg (by omega), if_neg (by omega), if_neg (by omega), if_neg (by omega), if_neg (by omega), if_neg (by omega), if_neg (by omega), if_neg (by omega), if_neg (by omega)], mS_rf⟩
    · rcases (show w = 0 ∨ w = 1 ∨ w = 2 ∨ w = 3 ∨ w = 4 ∨ w = 5 ∨ w = 6 ∨ w = 7 ∨ w = 8 by omega) with hsw | hsw | hsw | hsw | hsw | hsw | hsw | hsw | hsw
      · have hsw2 := hsw
        subst hsw
        refine r_tin C (tgt := 76) dX7_tellPerson_25 (by first | assumption | exact rgm (by omega) (by omega)) (by omega) (by omega) (off := 51) rfl rfl ?_
        refine r_aload_n C rfl dX7_tellPerson_76 ?_
        refine r_getr C dX7_tellPerson_77 fl_X7_13 ly_48 rfl ?_
        refine r_iconst C dX7_tellPerson_80 ?_
        refine r_iload_n C rfl dX7_tellPerson_81 ?_
        refine r_imul C dX7_tellPerson_82 ?_
        refine r_iload_n C rfl dX7_tellPerson_83 ?_
        refine r_iadd C dX7_tellPerson_84 ?_
        refine r_iald C dX7_tellPerson_85 ly_50 (k := 3 * k) (by omega) (by omega) ?_
        exact r_iret E dX7_tellPerson_86 ⟨by unfold vPerM; rw [if_neg (by decide), if_pos rfl], mS_rf⟩
      · have hsw2 := hsw
        subst hsw
        refine r_tin C (tgt := 76) dX7_tellPerson_25 (by first | assumption | exact rgm (by omega) (by omega)) (by omega) (by omega) (off := 51) rfl rfl ?_
        refine r_aload_n C rfl dX7_tellPerson_76 ?_
        refine r_getr C dX7_tellPerson_77 fl_X7_13 ly_48 rfl ?_
        refine r_iconst C dX7_tellPerson_80 ?_
        refine r_iload_n C rfl dX7_tellPerson_81 ?_
        refine r_imul C dX7_tellPerson_82 ?_
        refine r_iload_n C rfl dX7_tellPerson_83 ?_
        refine r_iadd C dX7_tellPerson_84 ?_
        refine r_iald C dX7_tellPerson_85 ly_50 (k := 3 * k + 1) (by omega) (by omega) ?_
        exact r_iret E dX7_tellPerson_86 ⟨by unfold vPerM; rw [if_neg (by decide), if_neg (by decide), if_pos rfl], mS_rf⟩
      · have hsw2 := hsw
        subst hsw
        refine r_tin C (tgt := 87) dX7_tellPerson_25 (by first | assumption | exact rgm (by omega) (by omega)) (by omega) (by omega) (off := 62) rfl rfl ?_
        refine r_aload_n C rfl dX7_tellPerson_87 ?_
        refine r_getr C dX7_tellPerson_88 fl_X7_16 ly_48 rfl ?_
        refine r_iload_n C rfl dX7_tellPerson_91 ?_
        refine r_iald C dX7_tellPerson_92 ly_51 rfl (by omega) ?_
        exact r_iret E dX7_tellPerson_93 ⟨by unfold vPerM; rw [if_neg (by decide), if_neg (by decide), if_neg (by decide), if_pos rfl], mS_rf⟩
      · have hsw2 := hsw
        subst hsw
        refine r_tin C (tgt := 94) dX7_tellPerson_25 (by first | assumption | exact rgm (by omega) (by omega)) (by omega) (by omega) (off := 69) rfl rfl ?_
        refine r_aload_n C rfl dX7_tellPerson_94 ?_
        refine r_getr C dX7_tellPerson_95 fl_X7_19 ly_48 rfl ?_
        refine r_iload_n C rfl dX7_tellPerson_98 ?_
        refine r_iald C dX7_tellPerson_99 ly_52 rfl (by omega) ?_
        exact r_iret E dX7_tellPerson_100 ⟨by unfold vPerM; rw [if_neg (by decide), if_neg (by decide), if_neg (by decide), if_neg (by decide), if_pos rfl], mS_rf⟩
      · have hsw2 := hsw
        subst hsw
        refine r_tin C (tgt := 101) dX7_tellPerson_25 (by first | assumption | exact rgm (by omega) (by omega)) (by omega) (by omega) (off := 76) rfl rfl ?_
        refine r_aload_n C rfl dX7_tellPerson_101 ?_
        refine r_getr C dX7_tellPerson_102 fl_X7_13 ly_48 rfl ?_
        refine r_iconst C dX7_tellPerson_105 ?_
        refine r_iload_n C rfl dX7_tellPerson_106 ?_
        refine r_imul C dX7_tellPerson_107 ?_
        refine r_iconst C dX7_tellPerson_108 ?_
        refine r_iadd C dX7_tellPerson_109 ?_
        refine r_iald C dX7_tellPerson_110 ly_50 (k := 3 * k + 2) (by omega) (by omega) ?_
        exact r_iret E dX7_tellPerson_111 ⟨by unfold vPerM; rw [if_neg (by decide), if_neg (by decide), if_neg (by decide), if_neg (by decide), if_neg (by decide), if_pos rfl], mS_rf⟩
      · have hsw2 := hsw
        subst hsw
        refine r_tin C (tgt := 112) dX7_tellPerson_25 (by first | assumption | exact rgm (by omega) (by omega)) (by omega) (by omega) (off := 87) rfl rfl ?_
        refine r_aload_n C rfl dX7_tellPerson_112 ?_
        refine r_iload_n C rfl dX7_tellPerson_113 ?_
        refine r_iload_n C rfl dX7_tellPerson_114 ?_
        refine r_cVz C dX7_tellPerson_115 vw_X7_179 (c_seatOf M hk (rgm (by decide) (by decide)) hv hf hg) (by decide) rfl ly_48 rfl rfl (Nat.le_of_ble_eq_true rfl) ?_
        exact r_iret E dX7_tellPerson_118 ⟨by rw [if_pos (show (5 : Int) = 5 from rfl)]; unfold vPerM; rw [if_neg (by decide), if_neg (by decide), if_neg (by decide), if_neg (by decide), if_neg (by decide), if_neg (by decide), if_pos rfl], mS_rf⟩
      · have hsw2 := hsw
        subst hsw
        refine r_tin C (tgt := 112) dX7_tellPerson_25 (by first | assumption | exact rgm (by omega) (by omega)) (by omega) (by omega) (off := 87) rfl rfl ?_
        refine r_aload_n C rfl dX7_tellPerson_112 ?_
        refine r_iload_n C rfl dX7_tellPerson_113 ?_
        refine r_iload_n C rfl dX7_tellPerson_114 ?_
        refine r_cVz C dX7_tellPerson_115 vw_X7_179 (c_seatOf M hk (rgm (by decide) (by decide)) hv hf hg) (by decide) rfl ly_48 rfl rfl (Nat.le_of_ble_eq_true rfl) ?_
        exact r_iret E dX7_tellPerson_118 ⟨by rw [if_neg (show ¬ (6 : Int) = 5 by decide)]; unfold vPerM; rw [if_neg (by decide), if_neg (by decide), if_neg (by decide), if_neg (by decide), if_neg (by decide), if_neg (by decide), if_neg (by decide), if_pos rfl], mS_rf⟩
      · have hsw2 := hsw
        subst hsw
        refine r_tin C (tgt := 119) dX7_tellPerson_25 (by first | assumption | exact rgm (by omega) (by omega)) (by omega) (by omega) (off := 94) rfl rfl ?_
        refine r_aload_n C rfl dX7_tellPerson_119 ?_
        refine r_iload_n C rfl dX7_tellPerson_120 ?_
        refine r_cVz C dX7_tellPerson_121 vw_X7_182 (c_pridesOf M hk hv hrw hse) (by decide) rfl ly_48 rfl rfl (Nat.le_of_ble_eq_true rfl) ?_
        exact r_iret E dX7_tellPerson_124 ⟨by unfold vPerM; rw [if_neg (by decide), if_neg (by decide), if_neg (by decide), if_neg (by decide), if_neg (by decide), if_neg (by decide), if_neg (by decide), if_neg (by decide), if_pos rfl], mS_rf⟩
      · have hsw2 := hsw
        subst hsw
        refine r_tin C (tgt := 125) dX7_tellPerson_25 (by first | assumption | exact rgm (by omega) (by omega)) (by omega) (by omega) (off := 100) rfl rfl ?_
        refine r_aload_n C rfl dX7_tellPerson_125 ?_
        refine r_iload_n C rfl dX7_tellPerson_126 ?_
        refine r_callV C dX7_tellPerson_127 vw_X7_185 (c_tryOf M hk hv hrw hse) (by decide) rfl ly_48 rfl rfl (Nat.le_of_ble_eq_true rfl) ?_
        intro r T h
        obtain ⟨rfl, hS⟩ := h
        try dsimp only [Option.toList, List.cons_append, List.nil_append]
        exact r_iret E dX7_tellPerson_130 ⟨by unfold vPerM; rw [if_neg (by decide), if_neg (by decide), if_neg (by decide), if_neg (by decide), if_neg (by decide), if_neg (by decide), if_neg (by decide), if_neg (by decide), if_neg (by decide), if_pos rfl], hS⟩
set_option maxRecDepth 10000 in
set_option maxHeartbeats 1000000 in
theorem c_m_person (M : Mm_) {k : Nat} {w : Int} (hk : (k : Int) < M.1 48 3) (rw_ : rg w) (hM : oM M) : Cn 6 kX7_person [.ref 48, .int (zI (k : Int)), .int (zI w)] M (pS (vPerM M k w) M) := by
  have hM0 := hM
  obtain ⟨hpg, hv, hrw, hf, hg, hse, hbo, hst, hni⟩ := hM
  have hv0 : (M.1 48 3 = 0 ∧ M.1 48 4 = 0) ∨ (2 ≤ M.1 48 3 ∧ M.1 48 3 ≤ 4 ∧ 2 ≤ M.1 48 4 ∧ M.1 48 4 ≤ 6) := hv
  have ra : rg (k : Int) := rgm (by omega) (by omega)
  refine Cn.of rfl (Nat.le_of_ble_eq_true rfl) (fun G C E => ?_)
  show G 0 [.ref 48, .int (zI (k : Int)), .int (zI w)] [] M
  refine r_aload_n C rfl dX7_person_0 ?_
  refine r_iload_n C rfl dX7_person_1 ?_
  refine r_cVb C dX7_person_2 vw_X7_188 (c_isPerson M ra hv) (by decide) rfl ly_48 rfl rfl (Nat.le_of_ble_eq_true rfl) (fun h2 => ?_) (fun h2 => absurd (by omega) h2)
  refine r_if_eq C (tgt := 17) dX7_person_5 rfl (by first | assumption | exact rgm (by omega) (by omega)) (fun h5 => absurd h5 (by decide)) (fun h5 => ?_)
  refine r_aload_n C rfl dX7_person_8 ?_
  refine r_iload_n C rfl dX7_person_9 ?_
  refine r_iload_n C rfl dX7_person_10 ?_
  refine r_callV C dX7_person_11 vw_X7_191 (c_tellPerson M hk rw_ hM0) (by decide) rfl ly_48 rfl rfl (Nat.le_of_ble_eq_true rfl) ?_
  intro r T h
  obtain ⟨rfl, hS⟩ := h
  try dsimp only [Option.toList, List.cons_append, List.nil_append]
  refine r_goto C (tgt := 19) dX7_person_14 rfl ?_
  exact r_iret E dX7_person_19 ⟨rfl, hS⟩
set_option maxRecDepth 10000 in
set_option maxHeartbeats 1000000 in
theorem c_m_person_no (M : Mm_) {a w : Int} (ra : rg a) (ha : ¬ (0 ≤ a ∧ a < M.1 48 3)) (hM : oM M) : Cn 2 kX7_person [.ref 48, .int (zI a), .int (zI w)] M (pS (-101) M) := by
  obtain ⟨hpg, hv, hrw, hf, hg, hse, hbo, hst, hni⟩ := hM
  have hv0 : (M.1 48 3 = 0 ∧ M.1 48 4 = 0) ∨ (2 ≤ M.1 48 3 ∧ M.1 48 3 ≤ 4 ∧ 2 ≤ M.1 48 4 ∧ M.1 48 4 ≤ 6) := hv
  refine Cn.of rfl (Nat.le_of_ble_eq_true rfl) (fun G C E => ?_)
  show G 0 [.ref 48, .int (zI a), .int (zI w)] [] M
  refine r_aload_n C rfl dX7_person_0 ?_
  refine r_iload_n C rfl dX7_person_1 ?_
  refine r_cVb C dX7_person_2 vw_X7_188 (c_isPerson M ra hv) (by decide) rfl ly_48 rfl rfl (Nat.le_of_ble_eq_true rfl) (fun h2 => absurd h2 (by omega)) (fun h2 => ?_)
  refine r_if_eq C (tgt := 17) dX7_person_5 rfl (by first | assumption | exact rgm (by omega) (by omega)) (fun h5 => ?_) (fun h5 => absurd h5 (by decide))
  refine r_bipush C rfl dX7_person_17 ?_
  exact r_iret E dX7_person_19 ⟨rfl, mS_rf⟩
set_option maxRecDepth 10000 in
set_option maxHeartbeats 1000000 in
theorem c_m_as (M : Mm_) {k : Nat} {q : Int} (hk : (k : Int) < M.1 48 3) (rq : rg q) (hM : oM M) : Cn 2 kX7_as [.ref 48, .int (zI (k : Int)), .int (zI q)] M (pS (vAs (kdM M) k q) M) := by
  obtain ⟨hpg, hv, hrw, hf, hg, hse, hbo, hst, hni⟩ := hM
  have hv0 : (M.1 48 3 = 0 ∧ M.1 48 4 = 0) ∨ (2 ≤ M.1 48 3 ∧ M.1 48 3 ≤ 4 ∧ 2 ≤ M.1 48 4 ∧ M.1 48 4 ≤ 6) := hv
  have ra : rg (k : Int) := rgm (by omega) (by omega)
  have hr := hrw k (by omega)
  refine Cn.of rfl (Nat.le_of_ble_eq_true rfl) (fun G C E => ?_)
  show G 0 [.ref 48, .int (zI (k : Int)), .int (zI q), .null, .null] [] M
  refine r_aload_n C rfl dX7_as_0 ?_
  refine r_iload_n C rfl dX7_as_1 ?_
  refine r_cVb C dX7_as_2 vw_X7_188 (c_isPerson M ra hv) (by decide) rfl ly_48 rfl rfl (Nat.le_of_ble_eq_true rfl) (fun h2 => ?_) (fun h2 => absurd (by omega) h2)
  refine r_if_ne C (tgt := 11) dX7_as_5 rfl (by first | assumption | exact rgm (by omega) (by omega)) (fun h5 => ?_) (fun h5 => absurd h5 (by decide))
  refine r_iload_n C rfl dX7_as_11 ?_
  refine r_i2l C dX7_as_12 ?_
  refine r_lconst C dX7_as_13 ?_
  refine r_ldc2 C dX7_as_14 kc_X7_194 ?_
  refine r_cSb C dX7_as_17 sw_X7_76 (c_inZ M (b := 0) (c := 4) rq rfl rfl) (by decide) rfl rfl (Nat.le_of_ble_eq_true rfl) (fun h17 => ?_) (fun h17 => ?_)
  · refine r_if_ne C (tgt := 26) dX7_as_20 rfl (by first | assumption | exact rgm (by omega) (by omega)) (fun h20 => ?_) (fun h20 => absurd h20 (by decide))
    refine r_aload_n C rfl dX7_as_26 ?_
    refine r_getr C dX7_as_27 fl_X7_13 ly_48 rfl ?_
    refine r_iconst C dX7_as_30 ?_
    refine r_iload_n C rfl dX7_as_31 ?_
    refine r_imul C dX7_as_32 ?_
    refine r_iald C dX7_as_33 ly_50 (k := 3 * k) (by omega) (by omega) ?_
    refine r_istore_n C dX7_as_34 3 rfl (by decide) rfl ?_
    dsimp only [List.set, Nat.reduceAdd]
    refine r_iload_n C rfl dX7_as_35 ?_
    refine r_if_eq C (tgt := 54) dX7_as_36 rfl (by first | assumption | exact rgm (by omega) (by omega)) (fun h36 => ?_) (fun h36 => ?_)
    · refine r_iconst C dX7_as_54 ?_
      refine r_goto C (tgt := 59) dX7_as_55 rfl ?_
      refine r_istore C dX7_as_59 4 rfl (by decide) rfl ?_
      dsimp only [List.set, Nat.reduceAdd]
      refine r_iload C rfl dX7_as_61 ?_
      refine r_if_eq C (tgt := 70) dX7_as_63 rfl (by first | assumption | exact rgm (by omega) (by omega)) (fun h63 => absurd h63 (by decide)) (fun h63 => ?_)
      refine r_iload_n C rfl dX7_as_66 ?_
      refine r_goto C (tgt := 71) dX7_as_67 rfl ?_
      exact r_iret E dX7_as_71 ⟨by unfold vAs kdM; first | rw [if_pos (by omega)] | rw [if_neg (by omega), if_pos (by omega)] | rw [if_neg (by omega), if_neg (by omega)], mS_rf⟩
    · refine r_iload_n C rfl dX7_as_39 ?_
      refine r_iload_n C rfl dX7_as_40 ?_
      refine r_icmp_eq C (tgt := 54) dX7_as_41 rfl (by first | assumption | exact rgm (by omega) (by omega)) (by first | assumption | exact rgm (by omega) (by omega)) (fun h41 => ?_) (fun h41 => ?_)
      · refine r_iconst C dX7_as_54 ?_
        refine r_goto C (tgt := 59) dX7_as_55 rfl ?_
        refine r_istore C dX7_as_59 4 rfl (by decide) rfl ?_
        dsimp only [List.set, Nat.reduceAdd]
        refine r_iload C rfl dX7_as_61 ?_
        refine r_if_eq C (tgt := 70) dX7_as_63 rfl (by first | assumption | exact rgm (by omega) (by omega)) (fun h63 => absurd h63 (by decide)) (fun h63 => ?_)
        refine r_iload_n C rfl dX7_as_66 ?_
        refine r_goto C (tgt := 71) dX7_as_67 rfl ?_
        exact r_iret E dX7_as_71 ⟨by unfold vAs kdM; first | rw [if_pos (by omega)] | rw [if_neg (by omega), if_pos (by omega)] | rw [if_neg (by omega), if_neg (by omega)], mS_rf⟩
      · refine r_iload_n C rfl dX7_as_44 ?_
        refine r_iconst C dX7_as_45 ?_
        refine r_icmp_ne C (tgt := 58) dX7_as_46 rfl (by first | assumption | exact rgm (by omega) (by omega)) (by first | assumption | exact rgm (by omega) (by omega)) (fun h46 => ?_) (fun h46 => ?_)
        · refine r_iconst C dX7_as_58 ?_
          refine r_istore C dX7_as_59 4 rfl (by decide) rfl ?_
          dsimp only [List.set, Nat.reduceAdd]
          refine r_iload C rfl dX7_as_61 ?_
          refine r_if_eq C (tgt := 70) dX7_as_63 rfl (by first | assumption | exact rgm (by omega) (by omega)) (fun h63 => ?_) (fun h63 => absurd h63 (by decide))
          refine r_iconst C dX7_as_70 ?_
          exact r_iret E dX7_as_71 ⟨by unfold vAs kdM; first | rw [if_pos (by omega)] | rw [if_neg (by omega), if_pos (by omega)] | rw [if_neg (by omega), if_neg (by omega)], mS_rf⟩
        · refine r_iload_n C rfl dX7_as_49 ?_
          refine r_iconst C dX7_as_50 ?_
          refine r_icmp_ne C (tgt := 58) dX7_as_51 rfl (by first | assumption | exact rgm (by omega) (by omega)) (by first | assumption | exact rgm (by omega) (by omega)) (fun h51 => ?_) (fun h51 => ?_)
          · refine r_iconst C dX7_as_58 ?_
            refine r_istore C dX7_as_59 4 rfl (by decide) rfl ?_
            dsimp only [List.set, Nat.reduceAdd]
            refine r_iload C rfl dX7_as_61 ?_
            refine r_if_eq C (tgt := 70) dX7_as_63 rfl (by first | assumption | exact rgm (by omega) (by omega)) (fun h63 => ?_) (fun h63 => absurd h63 (by decide))
            refine r_iconst C dX7_as_70 ?_
            exact r_iret E dX7_as_71 ⟨by unfold vAs kdM; first | rw [if_pos (by omega)] | rw [if_neg (by omega), if_pos (by omega)] | rw [if_neg (by omega), if_neg (by omega)], mS_rf⟩
          · refine r_iconst C dX7_as_54 ?_
            refine r_goto C (tgt := 59) dX7_as_55 rfl ?_
            refine r_istore C dX7_as_59 4 rfl (by decide) rfl ?_
            dsimp only [List.set, Nat.reduceAdd]
            refine r_iload C rfl dX7_as_61 ?_
            refine r_if_eq C (tgt := 70) dX7_as_63 rfl (by first | assumption | exact rgm (by omega) (by omega)) (fun h63 => absurd h63 (by decide)) (fun h63 => ?_)
            refine r_iload_n C rfl dX7_as_66 ?_
            refine r_goto C (tgt := 71) dX7_as_67 rfl ?_
            exact r_iret E dX7_as_71 ⟨by unfold vAs kdM; first | rw [if_pos (by omega)] | rw [if_neg (by omega), if_pos (by omega)] | rw [if_neg (by omega), if_neg (by omega)], mS_rf⟩
  · refine r_if_ne C (tgt := 26) dX7_as_20 rfl (by first | assumption | exact rgm (by omega) (by omega)) (fun h20 => absurd h20 (by decide)) (fun h20 => ?_)
    refine r_bipush C rfl dX7_as_23 ?_
    exact r_iret E dX7_as_25 ⟨by unfold vAs kdM; first | rw [if_pos (by omega)] | rw [if_neg (by omega), if_pos (by omega)] | rw [if_neg (by omega), if_neg (by omega)], mS_rf⟩
set_option maxRecDepth 10000 in
set_option maxHeartbeats 1000000 in
theorem c_m_as_no (M : Mm_) {a w : Int} (ra : rg a) (ha : ¬ (0 ≤ a ∧ a < M.1 48 3)) (hM : oM M) : Cn 2 kX7_as [.ref 48, .int (zI a), .int (zI w)] M (pS (-101) M) := by
  obtain ⟨hpg, hv, hrw, hf, hg, hse, hbo, hst, hni⟩ := hM
  have hv0 : (M.1 48 3 = 0 ∧ M.1 48 4 = 0) ∨ (2 ≤ M.1 48 3 ∧ M.1 48 3 ≤ 4 ∧ 2 ≤ M.1 48 4 ∧ M.1 48 4 ≤ 6) := hv
  refine Cn.of rfl (Nat.le_of_ble_eq_true rfl) (fun G C E => ?_)
  show G 0 [.ref 48, .int (zI a), .int (zI w), .null, .null] [] M
  refine r_aload_n C rfl dX7_as_0 ?_
  refine r_iload_n C rfl dX7_as_1 ?_
  refine r_cVb C dX7_as_2 vw_X7_188 (c_isPerson M ra hv) (by decide) rfl ly_48 rfl rfl (Nat.le_of_ble_eq_true rfl) (fun h2 => absurd h2 (by omega)) (fun h2 => ?_)
  refine r_if_ne C (tgt := 11) dX7_as_5 rfl (by first | assumption | exact rgm (by omega) (by omega)) (fun h5 => absurd h5 (by decide)) (fun h5 => ?_)
  refine r_bipush C rfl dX7_as_8 ?_
  exact r_iret E dX7_as_10 ⟨rfl, mS_rf⟩
set_option maxRecDepth 10000 in
set_option maxHeartbeats 1000000 in
theorem c_inBottles (M : Mm_) {q : Int} (h0 : 0 ≤ q) (h1 : q < 64) : Cn 0 kX7_inBottles [.ref 48, .int (zI q)] M (pZ (hd4 (M.1 55) q) M) := by
  refine Cn.of rfl (Nat.le_of_ble_eq_true rfl) (fun G C E => ?_)
  show G 0 [.ref 48, .int (zI q), .null, .null] [] M
  have lp : ∀ i : Nat, i ≤ 4 → ∀ s z : Int, s = sm (fun i => bt q i * M.1 55 i) i → z = i → G 4 [.ref 48, .int (zI q), .int (zI s), .int (zI z)] [] M := by
    refine lpN 4 ?_ ?_
    · intro s z hs hz 
      refine r_iload_n C rfl dX7_inBottles_4 ?_
      refine r_iconst C dX7_inBottles_5 ?_
      refine r_icmp_ge C (tgt := 30) dX7_inBottles_6 rfl (by first | assumption | exact rgm (by omega) (by omega)) (by first | assumption | exact rgm (by omega) (by omega)) (fun h6 => ?_) (fun h6 => absurd h6 (by omega))
      refine r_iload_n C rfl dX7_inBottles_30 ?_
      exact r_iret E dX7_inBottles_31 (pZ_of hs)
    · intro i hi ih s z hs hz 
      have hdv := dv_b i h0
      refine r_iload_n C rfl dX7_inBottles_4 ?_
      refine r_iconst C dX7_inBottles_5 ?_
      refine r_icmp_ge C (tgt := 30) dX7_inBottles_6 rfl (by first | assumption | exact rgm (by omega) (by omega)) (by first | assumption | exact rgm (by omega) (by omega)) (fun h6 => absurd h6 (by omega)) (fun h6 => ?_)
      refine r_iload_n C rfl dX7_inBottles_9 ?_
      refine r_iload_n C rfl dX7_inBottles_10 ?_
      refine r_iload_n C rfl dX7_inBottles_11 ?_
      refine r_ishr C (v := q / 2 ^ i) (by rw [hz]; exact zb_shr h0 (by omega) (by omega)) dX7_inBottles_12 ?_
      refine r_iconst C dX7_inBottles_13 ?_
      refine r_iand C (v := bt q i) (zb_and1 (by omega) (by omega)) dX7_inBottles_14 ?_
      refine r_aload_n C rfl dX7_inBottles_15 ?_
      refine r_getr C dX7_inBottles_16 fl_X7_28 ly_48 rfl ?_
      refine r_iload_n C rfl dX7_inBottles_19 ?_
      refine r_iald C dX7_inBottles_20 ly_55 hz (by omega) ?_
      refine r_imul C dX7_inBottles_21 ?_
      refine r_iadd C dX7_inBottles_22 ?_
      refine r_istore_n C dX7_inBottles_23 2 rfl (by decide) rfl ?_
      dsimp only [List.set, Nat.reduceAdd]
      refine r_iinc C dX7_inBottles_24 rfl (by decide) rfl ?_
      dsimp only [List.set, Nat.reduceAdd]
      refine r_goto C (tgt := 4) dX7_inBottles_27 rfl ?_
      exact ih _ _ (by rw [hs]; rfl) (by omega)
  refine r_iconst C dX7_inBottles_0 ?_
  refine r_istore_n C dX7_inBottles_1 2 rfl (by decide) rfl ?_
  dsimp only [List.set, Nat.reduceAdd]
  refine r_iconst C dX7_inBottles_2 ?_
  refine r_istore_n C dX7_inBottles_3 3 rfl (by decide) rfl ?_
  dsimp only [List.set, Nat.reduceAdd]
  exact lp 0 (by omega) _ _ rfl rfl
set_option maxRecDepth 10000 in
set_option maxHeartbeats 1000000 in
theorem c_isOfFull (M : Mm_) {q : Int} (h0 : 0 ≤ q) (h1 : q < 64) (hbo : ∀ i, i < 4 → 0 ≤ M.1 55 i ∧ M.1 55 i ≤ 99) : Cn 0 kX7_isOfFull [.ref 48, .int (zI q)] M (pB (subB (M.1 55) q = true) M) := by
  refine Cn.of rfl (Nat.le_of_ble_eq_true rfl) (fun G C E => ?_)
  show G 0 [.ref 48, .int (zI q), .null, .null] [] M
  have lp : ∀ i : Nat, i ≤ 4 → ∀ (e z : Int), z = i → ((e = 1 ∧ ∀ j : Nat, j < i → bt q j = 1 → 0 < M.1 55 j) ∨ (e = 0 ∧ ¬ ∀ j : Nat, j < i → bt q j = 1 → 0 < M.1 55 j)) → G 4 [.ref 48, .int (zI q), .int (zI e), .int (zI z)] [] M := by
    refine lpN 4 ?_ ?_
    · intro e z hz he
      rcases he with ⟨rfl, ha⟩ | ⟨rfl, ha⟩
      ·
        refine r_iload_n C rfl dX7_isOfFull_4 ?_
        refine r_iconst C dX7_isOfFull_5 ?_
        refine r_icmp_ge C (tgt := 42) dX7_isOfFull_6 rfl (by first | assumption | exact rgm (by omega) (by omega)) (by first | assumption | exact rgm (by omega) (by omega)) (fun h6 => ?_) (fun h6 => absurd h6 (by omega))
        refine r_iload_n C rfl dX7_isOfFull_42 ?_
        exact r_zret E dX7_isOfFull_43 (by decide) (pB_t (decide_eq_true ha))
      ·
        refine r_iload_n C rfl dX7_isOfFull_4 ?_
        refine r_iconst C dX7_isOfFull_5 ?_
        refine r_icmp_ge C (tgt := 42) dX7_isOfFull_6 rfl (by first | assumption | exact rgm (by omega) (by omega)) (by first | assumption | exact rgm (by omega) (by omega)) (fun h6 => ?_) (fun h6 => absurd h6 (by omega))
        refine r_iload_n C rfl dX7_isOfFull_42 ?_
        exact r_zret E dX7_isOfFull_43 (by decide) (pB_f (fun h => ha (of_decide_eq_true h)))
    · intro i hi ih e z hz he
      have hdv := dv_b i h0
      have hbt := bt_b q i
      have hb2 := hbo i (by omega)
      rcases he with ⟨rfl, ha⟩ | ⟨rfl, ha⟩
      ·
        refine r_iload_n C rfl dX7_isOfFull_4 ?_
        refine r_iconst C dX7_isOfFull_5 ?_
        refine r_icmp_ge C (tgt := 42) dX7_isOfFull_6 rfl (by first | assumption | exact rgm (by omega) (by omega)) (by first | assumption | exact rgm (by omega) (by omega)) (fun h6 => absurd h6 (by omega)) (fun h6 => ?_)
        refine r_iload_n C rfl dX7_isOfFull_9 ?_
        refine r_if_eq C (tgt := 34) dX7_isOfFull_10 rfl (by first | assumption | exact rgm (by omega) (by omega)) (fun h10 => absurd h10 (by decide)) (fun h10 => ?_)
        refine r_iload_n C rfl dX7_isOfFull_13 ?_
        refine r_iload_n C rfl dX7_isOfFull_14 ?_
        refine r_ishr C (v := q / 2 ^ i) (by rw [hz]; exact zb_shr h0 (by omega) (by omega)) dX7_isOfFull_15 ?_
        refine r_iconst C dX7_isOfFull_16 ?_
        refine r_iand C (v := bt q i) (zb_and1 (by omega) (by omega)) dX7_isOfFull_17 ?_
        refine r_if_eq C (tgt := 30) dX7_isOfFull_18 rfl (by first | assumption | exact rgm (by omega) (by omega)) (fun h18 => ?_) (fun h18 => ?_)
        · refine r_iconst C dX7_isOfFull_30 ?_
          refine r_goto C (tgt := 35) dX7_isOfFull_31 rfl ?_
          refine r_istore_n C dX7_isOfFull_35 2 rfl (by decide) rfl ?_
          dsimp only [List.set, Nat.reduceAdd]
          refine r_iinc C dX7_isOfFull_36 rfl (by decide) rfl ?_
          dsimp only [List.set, Nat.reduceAdd]
          refine r_goto C (tgt := 4) dX7_isOfFull_39 rfl ?_
          exact ih _ _ (by omega) (Or.inl ⟨rfl, (fun q hq => by rcases (show q < i ∨ q = i by omega) with q2 | q2; exact ha q q2; subst q2; intro h; omega)⟩)
        · refine r_aload_n C rfl dX7_isOfFull_21 ?_
          refine r_getr C dX7_isOfFull_22 fl_X7_28 ly_48 rfl ?_
          refine r_iload_n C rfl dX7_isOfFull_25 ?_
          refine r_iald C dX7_isOfFull_26 ly_55 hz (by omega) ?_
          refine r_if_le C (tgt := 34) dX7_isOfFull_27 rfl (by first | assumption | exact rgm (by omega) (by omega)) (fun h27 => ?_) (fun h27 => ?_)
          · refine r_iconst C dX7_isOfFull_34 ?_
            refine r_istore_n C dX7_isOfFull_35 2 rfl (by decide) rfl ?_
            dsimp only [List.set, Nat.reduceAdd]
            refine r_iinc C dX7_isOfFull_36 rfl (by decide) rfl ?_
            dsimp only [List.set, Nat.reduceAdd]
            refine r_goto C (tgt := 4) dX7_isOfFull_39 rfl ?_
            exact ih _ _ (by omega) (Or.inr ⟨rfl, fun q => by have := q i (by omega) (by omega); omega⟩)
          · refine r_iconst C dX7_isOfFull_30 ?_
            refine r_goto C (tgt := 35) dX7_isOfFull_31 rfl ?_
            refine r_istore_n C dX7_isOfFull_35 2 rfl (by decide) rfl ?_
            dsimp only [List.set, Nat.reduceAdd]
            refine r_iinc C dX7_isOfFull_36 rfl (by decide) rfl ?_
            dsimp only [List.set, Nat.reduceAdd]
            refine r_goto C (tgt := 4) dX7_isOfFull_39 rfl ?_
            exact ih _ _ (by omega) (Or.inl ⟨rfl, (fun q hq => by rcases (show q < i ∨ q = i by omega) with q2 | q2; exact ha q q2; subst q2; intro h; omega)⟩)
      ·
        refine r_iload_n C rfl dX7_isOfFull_4 ?_
        refine r_iconst C dX7_isOfFull_5 ?_
        refine r_icmp_ge C (tgt := 42) dX7_isOfFull_6 rfl (by first | assumption | exact rgm (by omega) (by omega)) (by first | assumption | exact rgm (by omega) (by omega)) (fun h6 => absurd h6 (by omega)) (fun h6 => ?_)
        refine r_iload_n C rfl dX7_isOfFull_9 ?_
        refine r_if_eq C (tgt := 34) dX7_isOfFull_10 rfl (by first | assumption | exact rgm (by omega) (by omega)) (fun h10 => ?_) (fun h10 => absurd h10 (by decide))
        refine r_iconst C dX7_isOfFull_34 ?_
        refine r_istore_n C dX7_isOfFull_35 2 rfl (by decide) rfl ?_
        dsimp only [List.set, Nat.reduceAdd]
        refine r_iinc C dX7_isOfFull_36 rfl (by decide) rfl ?_
        dsimp only [List.set, Nat.reduceAdd]
        refine r_goto C (tgt := 4) dX7_isOfFull_39 rfl ?_
        exact ih _ _ (by omega) (Or.inr ⟨rfl, fun q2 => ha (fun j hj => q2 j (by omega))⟩)
  refine r_iconst C dX7_isOfFull_0 ?_
  refine r_istore_n C dX7_isOfFull_1 2 rfl (by decide) rfl ?_
  dsimp only [List.set, Nat.reduceAdd]
  refine r_iconst C dX7_isOfFull_2 ?_
  refine r_istore_n C dX7_isOfFull_3 3 rfl (by decide) rfl ?_
  dsimp only [List.set, Nat.reduceAdd]
  exact lp 0 (by omega) _ _ rfl (Or.inl ⟨rfl, fun j hj => absurd hj (Nat.not_lt_zero j)⟩)
