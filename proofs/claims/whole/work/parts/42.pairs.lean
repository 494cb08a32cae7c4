
theorem mH_x {M U : Mm_} (h : xS M U) : mH M U := fun i hi => h.1 i (by omega)
theorem mH_t {M A U : Mm_} (h1 : mH M A) (h : xS A U) : mH M U := fun i hi => (h.1 i (by omega)).trans (h1 i hi)
theorem mW_H {M U : Mm_} (h : mH M U) : mW M U := ⟨fun i hi => h i (by omega), fun j _ => by rw [h 48 (by decide)]⟩
def PP (c : Nat) (d : Nat) (k : Ky_) (as : List Value) : Option Value → Mm_ → Prop := fun r U => ∃ v : Int, r = some (.int (zI v)) ∧ Cn d k (.ref 48 :: as) U (fun r2 N => r2 = some (.int (zI v)) ∧ INV (c + 1) N)
theorem PP_of {c : Nat} {M : Mm_} {d d2 : Nat} {kx km : Ky_} {as : List Value} {v : Int} {M' : Mm_} {Post : Mm_ → Option Value → Mm_ → Prop} (h1 : Cn d kx (.ref 0 :: as) M (fun r U => r = some (.int (zI v)) ∧ xS M' U)) (h2 : ∀ U, xS M' U → Cn d2 km (.ref 48 :: as) U (Post U)) (h3 : ∀ U, xS M' U → ∀ r2 N, Post U r2 N → r2 = some (.int (zI v)) ∧ INV (c + 1) N) : Cn d kx (.ref 0 :: as) M (PP c d2 km as) :=
  Cn.mono h1 (fun r U h => ⟨v, h.1, Cn.mono (h2 U h.2) (fun r2 N h4 => h3 U h.2 r2 N h4)⟩)

set_option maxRecDepth 10000 in
set_option maxHeartbeats 1000000 in
theorem c_m_person_no6 (M : Mm_) {a w : Int} (ra : rg a) (ha : ¬ (0 ≤ a ∧ a < M.1 48 3)) (hM : oM M) : Cn 6 kX7_person [.ref 48, .int (zI a), .int (zI w)] M (pS (-101) M) := by
  obtain ⟨hpg, hv, hrw, hf, hg, hse, hbo, hst, hni⟩ := hM
  have hv0 : (M.1 48 3 = 0 ∧ M.1 48 4 = 0) ∨ (2 ≤ M.1 48 3 ∧ M.1 48 3 ≤ 4 ∧ 2 ≤ M.1 48 4 ∧ M.1 48 4 ≤ 6) := hv
  refine Cn.of rfl (Nat.le_of_ble_eq_true rfl) (fun G C E => ?_)
  show G 0 [.ref 48, .int (zI a), .int (zI w)] [] M
  refine r_aload_n C rfl dX7_person_0 ?_
  refine r_iload_n C rfl dX7_person_1 ?_
  refine r_cVb C dX7_person_2 vw_X7_188 (c_isPerson M ra hv) (by decide) rfl ly_48 rfl rfl (Nat.le_of_ble_eq_true rfl) (fun h2 => absurd h2 (by omega)) (fun h2 => ?_)
  refine r_if_eq C (tgt := 17) dX7_person_5 rfl (by first | assumption | exact rgm (by omega) (by omega)) (fun h5 => ?_) (fun h5 => absurd h5 (by decide))
  refine r_bipush C rfl dX7_person_17 ?_
  exact r_iret E dX7_person_19 ⟨rfl, mS_rf⟩
set_option maxRecDepth 10000 in
set_option maxHeartbeats 1000000 in
theorem c_m_pail_no6 (M : Mm_) {a w : Int} (ra : rg a) (ha : ¬ (0 ≤ a ∧ a < M.1 48 4)) (hM : oM M) : Cn 6 kX7_pail [.ref 48, .int (zI a), .int (zI w)] M (pS (-101) M) := by
  obtain ⟨hpg, hv, hrw, hf, hg, hse, hbo, hst, hni⟩ := hM
  have hv0 : (M.1 48 3 = 0 ∧ M.1 48 4 = 0) ∨ (2 ≤ M.1 48 3 ∧ M.1 48 3 ≤ 4 ∧ 2 ≤ M.1 48 4 ∧ M.1 48 4 ≤ 6) := hv
  refine Cn.of rfl (Nat.le_of_ble_eq_true rfl) (fun G C E => ?_)
  show G 0 [.ref 48, .int (zI a), .int (zI w)] [] M
  refine r_aload_n C rfl dX7_pail_0 ?_
  refine r_iload_n C rfl dX7_pail_1 ?_
  refine r_cVb C dX7_pail_2 vw_X7_225 (c_isPail M ra hv) (by decide) rfl ly_48 rfl rfl (Nat.le_of_ble_eq_true rfl) (fun h2 => absurd h2 (by omega)) (fun h2 => ?_)
  refine r_if_eq C (tgt := 17) dX7_pail_5 rfl (by first | assumption | exact rgm (by omega) (by omega)) (fun h5 => ?_) (fun h5 => absurd h5 (by decide))
  refine r_bipush C rfl dX7_pail_17 ?_
  exact r_iret E dX7_pail_19 ⟨rfl, mS_rf⟩
set_option maxRecDepth 10000 in
set_option maxHeartbeats 1000000 in
theorem P_fault {c : Nat} {M : Mm_} (hI : INV c M) : Cn 6 kX6_fault (.ref 0 :: []) M (PP c 4 kX7_fault []) := by
  refine PP_of (c_x_fault M (INV_X hI)) (fun U hS => c_m_fault U (INV_M (INV_z (zS_x hS) hI)).1) (fun U hS r2 N h => ?_)
  have hU : INV c U := INV_z (zS_x hS) hI
  obtain ⟨rfl, e, rfl⟩ := h
  refine ⟨?_, INV_up (INV_z (zS_m (mS_48 (by decide))) hU)⟩
  rw [hU.2.2.1.1, hU.2.2.1.2, hS.1 1 (by omega), hS.1 2 (by omega)]
set_option maxRecDepth 10000 in
set_option maxHeartbeats 1000000 in
theorem P_person {c : Nat} {M : Mm_} (hI : INV c M) {a w : Int} (ra : rg a) (rw_ : rg w) : Cn 5 kX6_person (.ref 0 :: [.int (zI a), .int (zI w)]) M (PP c 6 kX7_person [.int (zI a), .int (zI w)]) := by
  have hn := I_n hI
  by_cases hka : 0 ≤ a ∧ a < M.1 3 4
  · obtain ⟨k, hk⟩ : ∃ k : Nat, a = k := ⟨a.toNat, by omega⟩
    subst hk
    refine PP_of (c_x_person M (by omega) rw_ (INV_X hI)) (fun U hS => c_m_person U (by rw [I_3 (INV_z (zS_x hS) hI), hS.1 3 (by omega)]; omega) rw_ (INV_M (INV_z (zS_x hS) hI))) (fun U hS r2 N h => ?_)
    have hU : INV c U := INV_z (zS_x hS) hI
    obtain ⟨rfl, hN⟩ := h
    refine ⟨?_, INV_up (INV_z (zS_m hN) hU)⟩
    rw [b_per hU (by rw [hS.1 3 (by omega)]; omega), vPer_S hS]
  · have hX := INV_X hI
    refine PP_of (c_x_person_no M ra hka hX) (fun U hS => c_m_person_no6 U ra (by rw [I_3 (INV_z (zS_x hS) hI), hS.1 3 (by omega)]; exact hka) (INV_M (INV_z (zS_x hS) hI))) (fun U hS r2 N h => ?_)
    obtain ⟨rfl, hN⟩ := h
    exact ⟨rfl, INV_up (INV_z (zS_m hN) (INV_z (zS_x hS) hI))⟩
set_option maxRecDepth 10000 in
set_option maxHeartbeats 1000000 in
theorem P_as {c : Nat} {M : Mm_} (hI : INV c M) {a w : Int} (ra : rg a) (rw_ : rg w) : Cn 2 kX6_as (.ref 0 :: [.int (zI a), .int (zI w)]) M (PP c 2 kX7_as [.int (zI a), .int (zI w)]) := by
  have hn := I_n hI
  by_cases hka : 0 ≤ a ∧ a < M.1 3 4
  · obtain ⟨k, hk⟩ : ∃ k : Nat, a = k := ⟨a.toNat, by omega⟩
    subst hk
    refine PP_of (c_x_as M (by omega) rw_ (INV_X hI)) (fun U hS => c_m_as U (by rw [I_3 (INV_z (zS_x hS) hI), hS.1 3 (by omega)]; omega) rw_ (INV_M (INV_z (zS_x hS) hI))) (fun U hS r2 N h => ?_)
    have hU : INV c U := INV_z (zS_x hS) hI
    obtain ⟨rfl, hN⟩ := h
    refine ⟨?_, INV_up (INV_z (zS_m hN) hU)⟩
    rw [I_kd hU, hS.1 4 (by omega)]
  · have hX := INV_X hI
    refine PP_of (c_x_as_no M ra hka hX) (fun U hS => c_m_as_no U ra (by rw [I_3 (INV_z (zS_x hS) hI), hS.1 3 (by omega)]; exact hka) (INV_M (INV_z (zS_x hS) hI))) (fun U hS r2 N h => ?_)
    obtain ⟨rfl, hN⟩ := h
    exact ⟨rfl, INV_up (INV_z (zS_m hN) (INV_z (zS_x hS) hI))⟩
set_option maxRecDepth 10000 in
set_option maxHeartbeats 1000000 in
theorem P_pail {c : Nat} {M : Mm_} (hI : INV c M) {a w : Int} (ra : rg a) (rw_ : rg w) : Cn 5 kX6_pail (.ref 0 :: [.int (zI a), .int (zI w)]) M (PP c 6 kX7_pail [.int (zI a), .int (zI w)]) := by
  have hn := I_n hI
  by_cases hka : 0 ≤ a ∧ a < M.1 3 5
  · obtain ⟨k, hk⟩ : ∃ k : Nat, a = k := ⟨a.toNat, by omega⟩
    subst hk
    refine PP_of (c_x_pail M (by omega) rw_ (INV_X hI)) (fun U hS => c_m_pail U (by rw [I_4 (INV_z (zS_x hS) hI), hS.1 3 (by omega)]; omega) rw_ (INV_M (INV_z (zS_x hS) hI))) (fun U hS r2 N h => ?_)
    have hU : INV c U := INV_z (zS_x hS) hI
    obtain ⟨rfl, hN⟩ := h
    refine ⟨?_, INV_up (INV_z (zS_m hN) hU)⟩
    rw [b_pail hU (by rw [hS.1 3 (by omega)]; omega), vPail_S hS]
  · have hX := INV_X hI
    refine PP_of (c_x_pail_no M ra hka hX) (fun U hS => c_m_pail_no6 U ra (by rw [I_4 (INV_z (zS_x hS) hI), hS.1 3 (by omega)]; exact hka) (INV_M (INV_z (zS_x hS) hI))) (fun U hS r2 N h => ?_)
    obtain ⟨rfl, hN⟩ := h
    exact ⟨rfl, INV_up (INV_z (zS_m hN) (INV_z (zS_x hS) hI))⟩
set_option maxRecDepth 10000 in
set_option maxHeartbeats 1000000 in
theorem P_force {c : Nat} {M : Mm_} (hI : INV c M) {a : Int} (ra : rg a) : Cn 2 kX6_force (.ref 0 :: [.int (zI a)]) M (PP c 3 kX7_force [.int (zI a)]) := by
  refine PP_of (c_x_force M ra (INV_X hI)) (fun U hS => c_m_force U ra (INV_M (INV_z (zS_x hS) hI))) (fun U hS r2 N h => ?_)
  have hU : INV c U := INV_z (zS_x hS) hI
  obtain ⟨rfl, hN⟩ := h
  refine ⟨?_, INV_up (INV_z (zS_m hN) hU)⟩
  rw [b_f hU, I_3 hU, hS.1 3 (by omega), hS.1 9 (by omega), hS.1 10 (by omega), hS.1 8 (by omega), hS.1 13 (by omega), hS.1 14 (by omega)]
set_option maxRecDepth 10000 in
set_option maxHeartbeats 1000000 in
theorem P_bottle {c : Nat} {M : Mm_} (hI : INV c M) {a : Int} (ra : rg a) : Cn 2 kX6_bottle (.ref 0 :: [.int (zI a)]) M (PP c 2 kX7_bottle [.int (zI a)]) := by
  refine PP_of (c_x_bottle M ra (INV_X hI)) (fun U hS => c_m_bottle U ra (INV_M (INV_z (zS_x hS) hI))) (fun U hS r2 N h => ?_)
  have hU : INV c U := INV_z (zS_x hS) hI
  obtain ⟨rfl, hN⟩ := h
  refine ⟨?_, INV_up (INV_z (zS_m hN) hU)⟩
  rw [I_3 hU, hS.1 3 (by omega)]
  by_cases q : 0 < M.1 3 4 ∧ 0 ≤ a ∧ a < 4
  · rw [if_pos q, if_pos q, I_s3 hU _ (by omega), hS.1 12 (by omega)]
  · rw [if_neg q, if_neg q]
set_option maxRecDepth 10000 in
set_option maxHeartbeats 1000000 in
theorem P_would {c : Nat} {M : Mm_} (hI : INV c M) : Cn 3 kX6_would (.ref 0 :: []) M (PP c 4 kX7_would []) := by
  refine PP_of (c_x_would M (INV_X hI)) (fun U hS => c_m_would U (INV_M (INV_z (zS_x hS) hI))) (fun U hS r2 N h => ?_)
  have hU : INV c U := INV_z (zS_x hS) hI
  obtain ⟨rfl, hN⟩ := h
  refine ⟨?_, INV_up (INV_z (zS_m hN) hU)⟩
  rw [b_won hU, I_3 hU, hS.1 3 (by omega), hS.1 7 (by omega), hS.1 9 (by omega), hS.1 10 (by omega), hS.1 8 (by omega), hS.1 13 (by omega), hS.1 14 (by omega)]
set_option maxRecDepth 10000 in
set_option maxHeartbeats 1000000 in
theorem P_who {c : Nat} {M : Mm_} (hI : INV c M) {a : Int} (ra : rg a) : Cn 4 kX6_who (.ref 0 :: [.int (zI a)]) M (PP c 4 kX7_who [.int (zI a)]) := by
  refine PP_of (c_x_who M ra (INV_X hI)) (fun U hS => c_m_who U ra (INV_M (INV_z (zS_x hS) hI))) (fun U hS r2 N h => ?_)
  have hU : INV c U := INV_z (zS_x hS) hI
  obtain ⟨rfl, hN⟩ := h
  refine ⟨?_, INV_up (INV_z (zS_m hN) hU)⟩
  rw [b_who hU, I_3 hU, I_4 hU, hS.1 3 (by omega), hS.1 6 (by omega), hS.1 7 (by omega), hS.1 9 (by omega), hS.1 10 (by omega), hS.1 8 (by omega), hS.1 13 (by omega), hS.1 14 (by omega)]
set_option maxRecDepth 10000 in
set_option maxHeartbeats 1000000 in
theorem P_count {c : Nat} {M : Mm_} (hI : INV c M) {a : Int} (ra : rg a) : Cn 3 kX6_count (.ref 0 :: [.int (zI a)]) M (PP c 5 kX7_count [.int (zI a)]) := by
  refine PP_of (c_x_count M ra (INV_X hI)) (fun U hS => c_m_count U ra (INV_M (INV_z (zS_x hS) hI))) (fun U hS r2 N h => ?_)
  have hU : INV c U := INV_z (zS_x hS) hI
  obtain ⟨rfl, hN⟩ := h
  refine ⟨?_, INV_up (INV_z (zS_m hN) hU)⟩
  rw [b_count hU, vCount_S hS]
set_option maxRecDepth 10000 in
set_option maxHeartbeats 1000000 in
theorem P_weeks {c : Nat} {M : Mm_} (hI : INV c M) {a w y : Int} (ra : rg a) (rw_ : rg w) (ry : rg y) : Cn 4 kX6_weeks (.ref 0 :: [.int (zI a), .int (zI w), .int (zI y)]) M (PP c 4 kX7_weeks [.int (zI a), .int (zI w), .int (zI y)]) := by
  refine PP_of (c_x_weeks M ra rw_ ry (INV_X hI)) (fun U hS => c_m_weeks U ra rw_ ry (INV_M (INV_z (zS_x hS) hI))) (fun U hS r2 N h => ?_)
  have hU : INV c U := INV_z (zS_x hS) hI
  obtain ⟨rfl, hN⟩ := h
  refine ⟨?_, INV_up (INV_z (zS_m hN) hU)⟩
  rw [I_3 hU, hS.1 3 (by omega)]
  by_cases q : ((1 ≤ a ∧ a ≤ 60) ∧ 0 ≤ w ∧ (0 ≤ y ∧ y ≤ 2))
  · rw [if_pos q, if_pos q]
    by_cases q2 : 0 < M.1 3 4
    · rw [if_pos q2, if_pos q2]
      have hb := b_wks hU (by rw [hS.1 3 (by omega)]; exact q2) w a.toNat
      have hn := I_n hI
      rw [hS.1 7 (by omega), hS.1 10 (by omega), hS.1 6 (by omega), hS.1 4 (by omega), hS.1 3 (by omega), hS.1 9 (by omega)] at hb
      have hs1 : sm (wkNM U a.toNat (U.1 52, 0, w)).1 (M.1 3 4).toNat = sm (wkN (M.1 7) (M.1 10) (M.1 6) (M.1 4) (M.1 3 4).toNat (M.1 3 5).toNat a.toNat (M.1 9, 0, w)).1 4 := by
        rw [sm_tail (f := (wkN (M.1 7) (M.1 10) (M.1 6) (M.1 4) (M.1 3 4).toNat (M.1 3 5).toNat a.toNat (M.1 9, 0, w)).1) (n := (M.1 3 4).toNat) 4 (by omega) (fun i h1 h2 => hb.1.2 i (by rw [hS.1 3 (by omega)]; omega) h2)]
        exact sm_congr (fun i hi => hb.1.1 i (by rw [hS.1 3 (by omega)]; omega))
      rw [hs1, hb.2]
    · rw [if_neg q2, if_neg q2]
  · rw [if_neg q, if_neg q]

theorem dgX_S {M T : Mm_} (h : xS M T) : dgX T = dgX M := by
  unfold dgX whoX
  rw [h.1 3 (by omega), h.1 1 (by omega), h.1 2 (by omega), h.1 7 (by omega), h.1 9 (by omega), h.1 10 (by omega), h.1 8 (by omega), h.1 13 (by omega), h.1 14 (by omega), h.1 12 (by omega), h.1 6 (by omega), show (fun (i w : Nat) => vPer T i (w : Int)) = (fun (i w : Nat) => vPer M i (w : Int)) from funext (fun i => funext (fun w => vPer_S h i _)), show (fun (i w : Nat) => vPail T i (w : Int)) = (fun (i w : Nat) => vPail M i (w : Int)) from funext (fun i => funext (fun w => vPail_S h i _)), show (fun (w : Nat) => vCount T (w : Int)) = (fun (w : Nat) => vCount M (w : Int)) from funext (fun w => vCount_S h _)]
theorem P_digest {c : Nat} {M : Mm_} (hI : INV c M) : Cn 6 kX6_digest [.ref 0] M (fun r U => ∃ x : Int64, r = some (.long x) ∧ Cn 6 kX7_digest [.ref 48] U (fun r2 N => r2 = some (.long x) ∧ INV (c + 1) N)) := by
  refine Cn.mono (c_x_digest M (INV_X hI)) (fun r U h => ?_)
  obtain ⟨rfl, hS⟩ := h
  have hU : INV c U := INV_z (zS_x hS) hI
  refine ⟨_, rfl, Cn.mono (c_m_digest U (INV_M hU)) (fun r2 N h2 => ?_)⟩
  obtain ⟨rfl, x, hN⟩ := h2
  exact ⟨by rw [b_dig hU, dgX_S hS], INV_up (INV_z (zS_h hN) hU)⟩

