
theorem mH_i {M A U : Mm_} {q : Prop} {hq : Decidable q} (h : xS (if q then A else M) U) (hA : mH M A) : mH M U := by
  by_cases c : q
  · rw [if_pos c] at h
    exact mH_t hA h
  · rw [if_neg c] at h
    exact mH_x h
theorem zs_let {K U : Mm_} {a : Int} (h : xS K U) : zS (mLetM K a) (mLetM U a) := by
  unfold mLetM
  rw [h.1 48 (by omega)]
  exact zS_U (zS_U (zS_x h))
theorem zs_vaM {K U : Mm_} {e k m : Nat} (h : xS K U) : zS (mVaM K e k m) (mVaM U e k m) := by
  unfold mVaM
  rw [h.1 48 (by omega), h.1 49 (by omega)]
  refine zS_U (zS_U (zS_U (zS_U (zS_U (zS_U (zS_U ?_))))))
  have h0 : zS (mU K 48 2 e) (mU U 48 2 e) := zS_U (zS_x h)
  obtain ⟨a1, a2⟩ := h0
  refine ⟨fun i hi => ?_, fun j q1 q2 => ?_⟩
  · have h1 := a1 i hi
    unfold rvM
    funext y
    simp only [h1]
  · have h1 := a2 j q1 q2
    unfold rvM
    simp only [h1]
theorem zs_sli {K U : Mm_} {k : Nat} {q : Int} (h : xS K U) : zS (mSliM K k q) (mSliM U k q) := by
  unfold mSliM
  rw [grM_H (mH_x h), h.1 48 (by omega), h.1 52 (by omega), h.1 50 (by omega)]
  exact zS_U (zS_U (zS_R (zS_x h)))
theorem zs_nig {K U : Mm_} (h : xS K U) : zS (mNigM K) (mNigM U) := by
  unfold mNigM
  rw [kdM_H (mH_x h), h.1 48 (by omega), h.1 52 (by omega)]
  exact zS_U (zS_R (zS_x h))
theorem zs_cur {K U : Mm_} (h : xS K U) : zS (mCurM K) (mCurM U) := by
  unfold mCurM
  rw [setM_H (mH_x h), curM_H (mH_x h), h.1 48 (by omega)]
  exact zS_U (zS_U (zS_R (zS_x h)))
theorem zs_keep {K U : Mm_} {b k : Nat} (h : xS K U) : zS (mKeepM K b k) (mKeepM U b k) := by
  unfold mKeepM
  rw [h.1 52 (by omega)]
  exact zS_U (zS_U (zS_x h))
theorem zs_pour {K U : Mm_} {b : Nat} {q : Int} (h : xS K U) : zS (mPourM K b q) (mPourM U b q) := by
  unfold mPourM
  rw [h.1 48 (by omega), h.1 55 (by omega)]
  exact zS_U (zS_U (zS_U (zS_U (zS_x h))))
theorem zs_see {K U : Mm_} {k : Nat} {q y : Int} (h : xS K U) : zS (mSeeM K k q y) (mSeeM U k q y) := by
  unfold mSeeM
  rw [h.1 48 (by omega)]
  exact zS_U (zS_U (zS_U (zS_U (zS_x h))))
theorem hL_let {M : Mm_} {a : Int} : mH M (mLet M a) := fun i hi => by unfold mLet; rw [mU_ne (by omega), mU_ne (by omega)]
theorem hL_u {M : Mm_} {i j : Nat} {z : Int} (h : i < 48) : mH M (mU M i j z) := fun a ha => mU_ne (by omega)
theorem hL_clear {M : Mm_} : mH M (mClear M) := fun i hi => by unfold mClear; rw [mU_ne (by omega), mU_ne (by omega), mU_ne (by omega), mU_ne (by omega), mU_ne (by omega), mR_ne (by omega), mR_ne (by omega), mR_ne (by omega), mR_ne (by omega)]
theorem hL_val {M : Mm_} {e k m : Nat} : mH M (mVal M e k m) := fun i hi => by
  unfold mVal
  rw [mU_ne (by omega), mU_ne (by omega), mU_ne (by omega)]
  rw [← hL_clear (M := M) i hi]
  funext y
  unfold rdM
  simp only []
  repeat rw [if_neg (by omega)]
theorem hL_sli {M : Mm_} {k : Nat} {q : Int} : mH M (mSli M k q) := fun i hi => by unfold mSli; rw [mU_ne (by omega), mR_ne (by omega)]
theorem hL_nig {M : Mm_} : mH M (mNig M) := fun i hi => by unfold mNig; rw [mU_ne (by omega), mR_ne (by omega)]
theorem hL_cur {M : Mm_} : mH M (mCur M) := fun i hi => by unfold mCur; rw [mU_ne (by omega), mU_ne (by omega), mU_ne (by omega)]
theorem hL_keep {M : Mm_} {b k : Nat} : mH M (mKeep M b k) := fun i hi => by unfold mKeep; rw [mU_ne (by omega), mU_ne (by omega)]
theorem hL_pour {M : Mm_} {b : Nat} {q : Int} : mH M (mPour M b q) := fun i hi => by unfold mPour; rw [mU_ne (by omega), mU_ne (by omega), mU_ne (by omega), mU_ne (by omega)]
theorem hL_see {M : Mm_} {k : Nat} {q y : Int} : mH M (mSee M k q y) := fun i hi => by unfold mSee; rw [mU_ne (by omega), mU_ne (by omega), mU_ne (by omega), mU_ne (by omega)]
theorem hL_all {M : Mm_} {a b : Nat} (h : b + 10 < 48) : mH M (mAll M a b) := fun i hi => by
  unfold mAll mForces mSeen
  rw [mU_ne (by omega), mR_ne (by omega), mR_ne (by omega), mR_ne (by omega), mR_ne (by omega), mU_ne (by omega), mU_ne (by omega), mU_ne (by omega), mU_ne (by omega), mR_ne (by omega), mR_ne (by omega), mR_ne (by omega), mR_ne (by omega), mR_ne (by omega)]

set_option maxRecDepth 10000 in
set_option maxHeartbeats 1000000 in
theorem P_letter {c : Nat} {M : Mm_} (hI : INV c M) {a : Int} (ra : rg a) : Cn 2 kX6_letter (.ref 0 :: [.int (zI a)]) M (PP c 1 kX7_letter [.int (zI a)]) := by
  refine PP_of (c_x_letter M ra (INV_X hI)) (fun U hS => c_m_letter U ra (oM_H (mH_i hS hL_let) (INV_M hI)).1) (fun U hS r2 N h => ?_)
  obtain ⟨rfl, rfl⟩ := h
  have e1 : U.1 48 1 = M.1 1 1 := by rw [mH_i hS hL_let 48 (by decide)]; exact hI.2.2.1.1
  rw [e1]
  refine ⟨rfl, ?_⟩
  by_cases q : (1 ≤ a ∧ a ≤ 126) ∧ M.1 1 1 < 24
  · rw [if_pos q] at hS ⊢
    exact INV_up (INV_z (zs_let hS) (K_letter hI q.1 q.2))
  · rw [if_neg q] at hS ⊢
    exact INV_up (INV_z (zS_x hS) hI)
set_option maxRecDepth 10000 in
set_option maxHeartbeats 1000000 in
theorem P_blank {c : Nat} {M : Mm_} (hI : INV c M)  : Cn 2 kX6_blank (.ref 0 :: []) M (PP c 0 kX7_blank []) := by
  refine PP_of (c_x_blank M (INV_X hI)) (fun U hS => c_m_blank U) (fun U hS r2 N h => ?_)
  obtain ⟨rfl, rfl⟩ := h
  have e1 : U.1 48 1 = M.1 1 1 := by rw [mH_t (hL_u (by decide)) hS 48 (by decide)]; exact hI.2.2.1.1
  exact ⟨by rw [e1], INV_up (INV_z (zS_U (zS_x hS)) (K_blank hI))⟩
set_option maxRecDepth 10000 in
set_option maxHeartbeats 1000000 in
theorem P_valley {c : Nat} {M : Mm_} (hI : INV c M)  : Cn 7 kX6_valley (.ref 0 :: []) M (PP c 4 kX7_valley []) := by
  have e1 : M.1 48 1 = M.1 1 1 := hI.2.2.1.1
  have e2 : M.1 49 = M.1 2 := hI.2.2.1.2
  have hp1 := (INV_X hI).1.1
  by_cases hvl : isVl (M.1 2) (M.1 1 1).toNat
  · obtain ⟨e, k, m, he, hek, hk2, hk4, hnm, hm2, hm6, hpp, hww⟩ := vl_facts (by omega) hvl
    have hmk : mkp (M.1 2) (M.1 1 1).toNat = e := by rw [enP_all hvl.1]; exact he
    refine PP_of (c_x_valley M (INV_X hI) hvl hmk hek hk2 hk4 (by omega) hm2 hm6 hpp) (fun U hS => c_m_valley U (oM_H (mH_t hL_val hS) (INV_M hI)).1 (e := e) (k := k) (m := m) (by rw [mH_t hL_val hS 48 (by decide), mH_t hL_val hS 49 (by decide), e1, e2]; exact hvl) (by rw [mH_t hL_val hS 48 (by decide), mH_t hL_val hS 49 (by decide), e1, e2]; exact he) hek hk2 hk4 (by rw [mH_t hL_val hS 48 (by decide), e1]; omega) hm2 hm6) (fun U hS r2 N h => ?_)
    obtain ⟨rfl, rfl⟩ := h
    exact ⟨rfl, INV_z (zs_vaM hS) (K_valley hI hvl hk2 hk4 hm2 hm6 hpp hww)⟩
  · refine PP_of (c_x_valley_no M (INV_X hI) hvl) (fun U hS => c_m_valley_no U (oM_H (mH_x hS) (INV_M hI)).1 (by rw [mH_x hS 48 (by decide), mH_x hS 49 (by decide), e1, e2]; exact hvl)) (fun U hS r2 N h => ?_)
    obtain ⟨rfl, e, rfl⟩ := h
    exact ⟨rfl, INV_up (INV_z (zS_m (mS_48 (by decide))) (INV_z (zS_x hS) hI))⟩
set_option maxRecDepth 10000 in
set_option maxHeartbeats 1000000 in
theorem P_slight {c : Nat} {M : Mm_} (hI : INV c M) {a w : Int} (ra : rg a) (rw_ : rg w) : Cn 3 kX6_slight (.ref 0 :: [.int (zI a), .int (zI w)]) M (PP c 2 kX7_slight [.int (zI a), .int (zI w)]) := by
  have hn := I_n hI
  have hX := INV_X hI
  by_cases hka : 0 ≤ a ∧ a < M.1 3 4
  · obtain ⟨k, hk⟩ : ∃ k : Nat, a = k := ⟨a.toNat, by omega⟩
    subst hk
    have hkn : (k : Int) < M.1 3 4 := hka.2
    refine PP_of (c_x_slight M hkn rw_ hX) (fun U hS => c_m_slight U (by rw [mH_i hS hL_sli 48 (by decide), I_3 hI]; exact hkn) rw_ (oM_H (mH_i hS hL_sli) (INV_M hI))) (fun U hS r2 N h => ?_)
    obtain ⟨rfl, hN⟩ := h
    have hH := mH_i hS hL_sli
    by_cases q : 0 ≤ w ∧ w < 3
    · have q2 : 0 ≤ w ∧ w ≤ 2 := by omega
      rw [if_pos q2] at hN ⊢
      rw [if_pos q] at hS ⊢
      refine ⟨?_, INV_up (INV_z (zS_tr (zs_sli hS) (zS_m hN)) (K_slight hI hkn q2))⟩
      rw [grM_H hH, I_gr hI, hH 52 (by decide), show 3 * (k : Int) + w = (k : Int) * 3 + w by omega, (GE_sl (GE_0 hI) (gr := M.1 6) (q := (k : Int) * 3 + w) (by omega)).1 k hkn]
    · have q2 : ¬ (0 ≤ w ∧ w ≤ 2) := by omega
      rw [if_neg q2] at hN ⊢
      rw [if_neg q] at hS ⊢
      exact ⟨rfl, INV_up (INV_z (zS_m hN) (INV_z (zS_x hS) hI))⟩
  · skip
    refine PP_of (c_x_slight_no M ra hka hX) (fun U hS => c_m_slight_no U ra (by rw [I_3 (INV_z (zS_x hS) hI), hS.1 3 (by omega)]; exact hka) (INV_M (INV_z (zS_x hS) hI))) (fun U hS r2 N h => ?_)
    obtain ⟨rfl, hN⟩ := h
    exact ⟨rfl, INV_up (INV_z (zS_m hN) (INV_z (zS_x hS) hI))⟩
set_option maxRecDepth 10000 in
set_option maxHeartbeats 1000000 in
theorem P_soothe {c : Nat} {M : Mm_} (hI : INV c M) {a : Int} (ra : rg a) : Cn 2 kX6_soothe (.ref 0 :: [.int (zI a)]) M (PP c 2 kX7_soothe [.int (zI a)]) := by
  have hn := I_n hI
  have hX := INV_X hI
  by_cases hka : 0 ≤ a ∧ a < M.1 3 4
  · obtain ⟨k, hk⟩ : ∃ k : Nat, a = k := ⟨a.toNat, by omega⟩
    subst hk
    have hkn : (k : Int) < M.1 3 4 := hka.2
    refine PP_of (c_x_soothe M hkn hX) (fun U hS => c_m_soothe U (by rw [mH_t (hL_u (by decide)) hS 48 (by decide), I_3 hI]; exact hkn) (oM_H (mH_t (hL_u (by decide)) hS) (INV_M hI))) (fun U hS r2 N h => ?_)
    obtain ⟨rfl, hN⟩ := h
    refine ⟨?_, INV_up (INV_z (zS_tr (zS_U (zS_x hS)) (zS_m hN)) (K_soothe hI hkn))⟩
    rw [mH_t (hL_u (by decide)) hS 52 (by decide), (GE_0 hI).1 k hkn]
  · skip
    refine PP_of (c_x_soothe_no M ra hka hX) (fun U hS => c_m_soothe_no U ra (by rw [I_3 (INV_z (zS_x hS) hI), hS.1 3 (by omega)]; exact hka) (INV_M (INV_z (zS_x hS) hI))) (fun U hS r2 N h => ?_)
    obtain ⟨rfl, hN⟩ := h
    exact ⟨rfl, INV_up (INV_z (zS_m hN) (INV_z (zS_x hS) hI))⟩
set_option maxRecDepth 10000 in
set_option maxHeartbeats 1000000 in
theorem P_sit {c : Nat} {M : Mm_} (hI : INV c M) {a w : Int} (ra : rg a) (rw_ : rg w) : Cn 2 kX6_sit (.ref 0 :: [.int (zI a), .int (zI w)]) M (PP c 2 kX7_sit [.int (zI a), .int (zI w)]) := by
  have hn := I_n hI
  have hX := INV_X hI
  by_cases hka : (0 ≤ a ∧ a < M.1 3 4) ∧ (0 ≤ w ∧ w < 6)
  · obtain ⟨k, hk⟩ : ∃ k : Nat, a = k := ⟨a.toNat, by omega⟩
    subst hk
    have hkn : (k : Int) < M.1 3 4 := hka.1.2
    refine PP_of (c_x_sit M hkn rw_ hka.2 hX) (fun U hS => c_m_sit U (by rw [mH_t (hL_u (by decide)) hS 48 (by decide), I_3 hI]; exact hkn) rw_ hka.2 (oM_H (mH_t (hL_u (by decide)) hS) (INV_M hI))) (fun U hS r2 N h => ?_)
    obtain ⟨rfl, hN⟩ := h
    refine ⟨?_, INV_up (INV_z (zS_tr (zS_U (zS_x hS)) (zS_m hN)) (K_sit hI hkn hka.2))⟩
    rw [mH_t (hL_u (by decide)) hS 51 (by decide), (I_s1 hI k hkn).2.1]
  · skip
    refine PP_of (c_x_sit_no M ra rw_ hka hX) (fun U hS => c_m_sit_no U ra rw_ (by rw [I_3 (INV_z (zS_x hS) hI), hS.1 3 (by omega)]; exact hka) (INV_M (INV_z (zS_x hS) hI))) (fun U hS r2 N h => ?_)
    obtain ⟨rfl, hN⟩ := h
    exact ⟨rfl, INV_up (INV_z (zS_m hN) (INV_z (zS_x hS) hI))⟩
set_option maxRecDepth 10000 in
set_option maxHeartbeats 1000000 in
theorem P_night {c : Nat} {M : Mm_} (hI : INV c M)  : Cn 2 kX6_night (.ref 0 :: []) M (PP c 1 kX7_night []) := by
  refine PP_of (c_x_night M (INV_X hI)) (fun U hS => c_m_night U (oM_H (mH_i hS hL_nig) (INV_M hI))) (fun U hS r2 N h => ?_)
  obtain ⟨rfl, hN⟩ := h
  have e48 := mH_i hS hL_nig 48 (by decide)
  rw [e48, I_3 hI, (I_s7 hI).1] at hN
  rw [e48, I_3 hI, (I_s7 hI).1]
  refine ⟨rfl, ?_⟩
  by_cases q : 0 < M.1 3 4 ∧ M.1 8 9 < 99
  · rw [if_pos q] at hS hN
    exact INV_up (INV_z (zS_tr (zs_nig hS) (zS_m hN)) (K_night hI q.2))
  · rw [if_neg q] at hS hN
    exact INV_up (INV_z (zS_m hN) (INV_z (zS_x hS) hI))
set_option maxRecDepth 10000 in
set_option maxHeartbeats 1000000 in
theorem P_curdle {c : Nat} {M : Mm_} (hI : INV c M)  : Cn 3 kX6_curdle (.ref 0 :: []) M (PP c 4 kX7_curdle []) := by
  refine PP_of (c_x_curdle M (INV_X hI)) (fun U hS => c_m_curdle U (oM_H (mH_i hS hL_cur) (INV_M hI))) (fun U hS r2 N h => ?_)
  obtain ⟨rfl, hN⟩ := h
  have e48 := mH_i hS hL_cur 48 (by decide)
  rw [e48, I_3 hI] at hN
  rw [curM_H (mH_i hS hL_cur), e48, b_cur hI, I_3 hI]
  refine ⟨rfl, ?_⟩
  by_cases q : 0 < M.1 3 4
  · rw [if_pos q] at hS hN
    exact INV_up (INV_z (zS_tr (zs_cur hS) (zS_m hN)) (K_curdle hI))
  · rw [if_neg q] at hS hN
    exact INV_up (INV_z (zS_m hN) (INV_z (zS_x hS) hI))
set_option maxRecDepth 10000 in
set_option maxHeartbeats 1000000 in
theorem P_fresh {c : Nat} {M : Mm_} (hI : INV c M) {a : Int} (ra : rg a) : Cn 2 kX6_fresh (.ref 0 :: [.int (zI a)]) M (PP c 2 kX7_fresh [.int (zI a)]) := by
  have hn := I_n hI
  have hX := INV_X hI
  by_cases hka : 0 ≤ a ∧ a < M.1 3 5
  · obtain ⟨k, hk⟩ : ∃ k : Nat, a = k := ⟨a.toNat, by omega⟩
    subst hk
    have hkn : (k : Int) < M.1 3 5 := hka.2
    refine PP_of (c_x_fresh M hkn hX) (fun U hS => c_m_fresh U (by rw [mH_t (hL_u (by decide)) hS 48 (by decide), I_4 hI]; exact hkn) (oM_H (mH_t (hL_u (by decide)) hS) (INV_M hI))) (fun U hS r2 N h => ?_)
    obtain ⟨rfl, hN⟩ := h
    refine ⟨?_, INV_up (INV_z (zS_tr (zS_U (zS_x hS)) (zS_m hN)) (K_fresh hI hkn))⟩
    rw [mH_t (hL_u (by decide)) hS 54 (by decide), I_s4 hI k hkn]
  · skip
    refine PP_of (c_x_fresh_no M ra hka hX) (fun U hS => c_m_fresh_no U ra (by rw [I_4 (INV_z (zS_x hS) hI), hS.1 3 (by omega)]; exact hka) (INV_M (INV_z (zS_x hS) hI))) (fun U hS r2 N h => ?_)
    obtain ⟨rfl, hN⟩ := h
    exact ⟨rfl, INV_up (INV_z (zS_m hN) (INV_z (zS_x hS) hI))⟩
set_option maxRecDepth 10000 in
set_option maxHeartbeats 1000000 in
theorem P_keep {c : Nat} {M : Mm_} (hI : INV c M) {a w : Int} (ra : rg a) (rw_ : rg w) : Cn 3 kX6_keep (.ref 0 :: [.int (zI a), .int (zI w)]) M (PP c 2 kX7_keep [.int (zI a), .int (zI w)]) := by
  have hn := I_n hI
  have hX := INV_X hI
  by_cases hka : (0 < M.1 3 4 ∧ 0 ≤ a ∧ a < 4) ∧ (0 ≤ w ∧ w < M.1 3 4)
  · obtain ⟨b, hb⟩ : ∃ b : Nat, a = b := ⟨a.toNat, by omega⟩
    subst hb
    have hb4 : b < 4 := by omega
    obtain ⟨k, hk⟩ : ∃ k : Nat, w = k := ⟨w.toNat, by omega⟩
    subst hk
    have hkn : (k : Int) < M.1 3 4 := hka.2.2
    refine PP_of (c_x_keep M hb4 hkn hX) (fun U hS => c_m_keep U hb4 (by rw [mH_i hS hL_keep 48 (by decide), I_3 hI]; exact hkn) (oM_H (mH_i hS hL_keep) (INV_M hI))) (fun U hS r2 N h => ?_)
    obtain ⟨rfl, hN⟩ := h
    have hH := mH_i hS hL_keep
    rw [hH 55 (by decide), hH 52 (by decide), I_s3 hI b hb4, (GE_0 hI).1 k hkn] at hN
    rw [hH 55 (by decide), hH 52 (by decide), I_s3 hI b hb4, (GE_0 hI).1 k hkn]
    refine ⟨rfl, ?_⟩
    by_cases q : M.1 12 b ≤ 0 ∧ M.1 9 k ≠ 0
    · rw [if_pos q] at hS hN
      exact INV_up (INV_z (zS_tr (zs_keep hS) (zS_m hN)) (K_keep hI hb4 hkn))
    · rw [if_neg q] at hS hN
      exact INV_up (INV_z (zS_m hN) (INV_z (zS_x hS) hI))
  · skip
    refine PP_of (c_x_keep_no M ra rw_ hka hX) (fun U hS => c_m_keep_no U ra rw_ (by rw [I_3 (INV_z (zS_x hS) hI), hS.1 3 (by omega)]; exact hka) (INV_M (INV_z (zS_x hS) hI))) (fun U hS r2 N h => ?_)
    obtain ⟨rfl, hN⟩ := h
    exact ⟨rfl, INV_up (INV_z (zS_m hN) (INV_z (zS_x hS) hI))⟩
set_option maxRecDepth 10000 in
set_option maxHeartbeats 1000000 in
theorem P_pour {c : Nat} {M : Mm_} (hI : INV c M) {a w : Int} (ra : rg a) (rw_ : rg w) : Cn 3 kX6_pour (.ref 0 :: [.int (zI a), .int (zI w)]) M (PP c 2 kX7_pour [.int (zI a), .int (zI w)]) := by
  have hn := I_n hI
  have hX := INV_X hI
  by_cases hka : (0 < M.1 3 4 ∧ 0 ≤ a ∧ a < 4) ∧ (0 ≤ w ∧ w < 6)
  · obtain ⟨b, hb⟩ : ∃ b : Nat, a = b := ⟨a.toNat, by omega⟩
    subst hb
    have hb4 : b < 4 := by omega
    refine PP_of (c_x_pour M hb4 hka.1.1 rw_ hka.2 hX) (fun U hS => c_m_pour U hb4 (by rw [mH_i hS hL_pour 48 (by decide), I_3 hI]; exact hka.1.1) rw_ hka.2 (oM_H (mH_i hS hL_pour) (INV_M hI))) (fun U hS r2 N h => ?_)
    obtain ⟨rfl, hN⟩ := h
    have hH := mH_i hS hL_pour
    rw [hH 55 (by decide), hH 48 (by decide), I_s3 hI b hb4, I_8 hI] at hN
    rw [hH 55 (by decide), hH 48 (by decide), I_s3 hI b hb4, I_8 hI]
    refine ⟨rfl, ?_⟩
    by_cases q : M.1 12 b ≠ 0 ∧ M.1 8 7 < 4
    · rw [if_pos q] at hS hN
      exact INV_up (INV_z (zS_tr (zs_pour hS) (zS_m hN)) (K_pour hI hb4 hka.2 q.2))
    · rw [if_neg q] at hS hN
      exact INV_up (INV_z (zS_m hN) (INV_z (zS_x hS) hI))
  · skip
    refine PP_of (c_x_pour_no M ra rw_ hka hX) (fun U hS => c_m_pour_no U ra rw_ (by rw [I_3 (INV_z (zS_x hS) hI), hS.1 3 (by omega)]; exact hka) (INV_M (INV_z (zS_x hS) hI))) (fun U hS r2 N h => ?_)
    obtain ⟨rfl, hN⟩ := h
    exact ⟨rfl, INV_up (INV_z (zS_m hN) (INV_z (zS_x hS) hI))⟩
set_option maxRecDepth 10000 in
set_option maxHeartbeats 1000000 in
theorem P_few {c : Nat} {M : Mm_} (hI : INV c M) {a w : Int} (ra : rg a) (rw_ : rg w) : Cn 8 kX6_few (.ref 0 :: [.int (zI a), .int (zI w)]) M (PP c 6 kX7_few [.int (zI a), .int (zI w)]) := by
  have hn := I_n hI
  have h8 := hI.1.2.2.2.2.2.2.2.1
  have e18 : M.1 48 18 = M.1 0 7 := hI.2.2.2.2.2.1.2.1
  have hp := pw64 (m := (M.1 3 5).toNat) (by omega)
  refine PP_of (c_x_few M ra rw_ (INV_X hI)) (fun U hS => c_m_few U ra rw_ (oM_H (mH_i hS (hL_u (by decide))) (INV_M hI)) (by rw [mH_i hS (hL_u (by decide)) 48 (by decide), e18]; exact h8)) (fun U hS r2 N h => ?_)
  obtain ⟨rfl, hN⟩ := h
  have hH := mH_i hS (hL_u (by decide))
  rw [hH 48 (by decide), I_4 hI, e18] at hN
  rw [fewM_W (mW_H hH), hH 48 (by decide), I_4 hI, e18]
  by_cases q : a ≠ 0 ∧ (0 ≤ a ∧ a < 2 ^ (M.1 3 5).toNat) ∧ (w = 0 ∨ (10 ≤ w ∧ w < 13))
  · have q2 : (1 ≤ a ∧ a < 2 ^ (M.1 3 5).toNat) ∧ (w = 0 ∨ (10 ≤ w ∧ w < 13)) := ⟨⟨by omega, q.2.1.2⟩, q.2.2⟩
    rw [if_pos q, if_pos q2, b_few hI (by omega)]
    by_cases q3 : M.1 0 7 < 30
    · rw [if_pos ⟨q, q3⟩] at hS
      rw [if_pos ⟨q2, q3⟩] at hN
      refine ⟨by rw [if_neg (by omega), if_neg (by omega)], INV_up (INV_z (zS_tr ?_ (zS_m hN)) (K_few hI q3))⟩
      rw [e18]
      exact zS_U (zS_x hS)
    · rw [if_neg (fun z => q3 z.2)] at hS
      rw [if_neg (fun z => q3 z.2)] at hN
      refine ⟨by rw [if_pos (by omega), if_pos (by omega)], INV_up (INV_z (zS_m hN) (INV_z (zS_x hS) hI))⟩
  · have q2 : ¬ ((1 ≤ a ∧ a < 2 ^ (M.1 3 5).toNat) ∧ (w = 0 ∨ (10 ≤ w ∧ w < 13))) := fun z => q ⟨by omega, ⟨by omega, z.1.2⟩, z.2⟩
    rw [if_neg (fun z => q z.1)] at hS
    rw [if_neg (fun z => q2 z.1)] at hN
    rw [if_neg q, if_neg q2]
    exact ⟨rfl, INV_up (INV_z (zS_m hN) (INV_z (zS_x hS) hI))⟩
set_option maxRecDepth 10000 in
set_option maxHeartbeats 1000000 in
theorem P_week {c : Nat} {M : Mm_} (hI : INV c M) {a w : Int} (ra : rg a) (rw_ : rg w) : Cn 8 kX6_week (.ref 0 :: [.int (zI a), .int (zI w)]) M (PP c 5 kX7_week [.int (zI a), .int (zI w)]) := by
  have hn := I_n hI
  have h8 := hI.1.2.2.2.2.2.2.2.2.1
  have e21 : M.1 48 21 = M.1 0 8 := hI.2.2.2.2.2.1.2.2
  refine PP_of (c_x_week M ra rw_ (INV_X hI)) (fun U hS => c_m_week U ra rw_ (oM_H (mH_i hS (hL_u (by decide))) (INV_M hI)) (by rw [mH_i hS (hL_u (by decide)) 48 (by decide), e21]; exact h8)) (fun U hS r2 N h => ?_)
  obtain ⟨rfl, hN⟩ := h
  have hH := mH_i hS (hL_u (by decide))
  rw [hH 48 (by decide), I_3 hI, e21] at hN
  rw [weekM_W (mW_H hH), hH 48 (by decide), I_3 hI, e21]
  by_cases q : (1 ≤ a ∧ a ≤ 3) ∧ (w = 0 ∨ (10 ≤ w ∧ w < 13))
  · rw [if_pos q, if_pos q, b_week hI]
    by_cases q3 : 0 < M.1 3 4 ∧ M.1 0 8 < 20
    · rw [if_pos ⟨q, q3⟩] at hS
      rw [if_pos ⟨q, by omega, q3.2⟩] at hN
      refine ⟨by rw [if_neg (by omega), if_neg (by omega)], INV_up (INV_z (zS_tr ?_ (zS_m hN)) (K_week hI q3.2))⟩
      rw [e21]
      exact zS_U (zS_x hS)
    · rw [if_neg (fun z => q3 z.2)] at hS
      rw [if_neg (fun z => q3 ⟨by have := z.2.1; omega, z.2.2⟩)] at hN
      refine ⟨by rw [if_pos (by omega), if_pos (by omega)], INV_up (INV_z (zS_m hN) (INV_z (zS_x hS) hI))⟩
  · rw [if_neg (fun z => q z.1)] at hS
    rw [if_neg (fun z => q z.1)] at hN
    rw [if_neg q, if_neg q]
    exact ⟨rfl, INV_up (INV_z (zS_m hN) (INV_z (zS_x hS) hI))⟩
set_option maxRecDepth 10000 in
set_option maxHeartbeats 1000000 in
theorem P_see {c : Nat} {M : Mm_} (hI : INV c M) {a w y : Int} (ra : rg a) (rw_ : rg w) (ry : rg y) : Cn 2 kX6_see (.ref 0 :: [.int (zI a), .int (zI w), .int (zI y)]) M (PP c 2 kX7_see [.int (zI a), .int (zI w), .int (zI y)]) := by
  have hn := I_n hI
  have hX := INV_X hI
  by_cases hka : 0 ≤ a ∧ a < M.1 3 4
  · obtain ⟨k, hk⟩ : ∃ k : Nat, a = k := ⟨a.toNat, by omega⟩
    subst hk
    have hkn : (k : Int) < M.1 3 4 := hka.2
    refine PP_of (c_x_see M hkn rw_ ry hX) (fun U hS => c_m_see U (by rw [mH_i hS hL_see 48 (by decide), I_3 hI]; exact hkn) rw_ ry (oM_H (mH_i hS hL_see) (INV_M hI))) (fun U hS r2 N h => ?_)
    obtain ⟨rfl, hN⟩ := h
    have hH := mH_i hS hL_see
    rw [hH 48 (by decide), (I_s6 hI).2] at hN
    rw [hH 48 (by decide), (I_s6 hI).2]
    refine ⟨rfl, ?_⟩
    by_cases q : ((0 ≤ w ∧ w < 3) ∧ (0 ≤ y ∧ y ≤ 99)) ∧ M.1 15 3 < 6
    · rw [if_pos q] at hS hN
      exact INV_up (INV_z (zS_tr (zs_see hS) (zS_m hN)) (K_see hI hkn q.1.1 q.1.2 q.2))
    · rw [if_neg q] at hS hN
      exact INV_up (INV_z (zS_m hN) (INV_z (zS_x hS) hI))
  · skip
    refine PP_of (c_x_see_no M ra hka hX) (fun U hS => c_m_see_no U ra (by rw [I_3 (INV_z (zS_x hS) hI), hS.1 3 (by omega)]; exact hka) (INV_M (INV_z (zS_x hS) hI))) (fun U hS r2 N h => ?_)
    obtain ⟨rfl, hN⟩ := h
    exact ⟨rfl, INV_up (INV_z (zS_m hN) (INV_z (zS_x hS) hI))⟩
set_option maxRecDepth 10000 in
set_option maxHeartbeats 1000000 in
theorem P_forget {c : Nat} {M : Mm_} (hI : INV c M)  : Cn 0 kX6_forget (.ref 0 :: []) M (PP c 0 kX7_forget []) := by
  refine PP_of (c_x_forget M (INV_X hI)) (fun U hS => c_m_forget U) (fun U hS r2 N h => ?_)
  obtain ⟨rfl, hN⟩ := h
  refine ⟨?_, INV_up (INV_z (zS_tr (zS_U (zS_x hS)) (zS_m hN)) (K_forget hI))⟩
  rw [mH_t (hL_u (by decide)) hS 48 (by decide), (I_s6 hI).2]
set_option maxRecDepth 10000 in
set_option maxHeartbeats 1000000 in
theorem P_image {c : Nat} {M : Mm_} (hI : INV c M)  : Cn 4 kX6_image (.ref 0 :: []) M (PP c 1 kX7_image []) := by
  have hL : mH M (mU (mAll M 8 19) 0 5 1) := fun i hi => by rw [mU_ne (by omega)]; exact hL_all (by decide) i hi
  refine PP_of (c_x_image M (INV_X hI)) (fun U hS => c_m_image U (oM_H (mH_i hS hL) (INV_M hI))) (fun U hS r2 N h => ?_)
  obtain ⟨rfl, hN1, hN2⟩ := h
  have e48 := mH_i hS hL 48 (by decide)
  rw [e48, I_3 hI] at hN1 hN2
  rw [e48, I_3 hI, (I_s7 hI).1]
  refine ⟨rfl, ?_⟩
  by_cases q : 0 < M.1 3 4
  · rw [if_pos q] at hS
    exact INV_up (K_image hI hS.1 (hN1 q))
  · rw [if_neg q] at hS
    exact INV_up (INV_z (zS_m (hN2 q)) (INV_z (zS_x hS) hI))
set_option maxRecDepth 10000 in
set_option maxHeartbeats 1000000 in
theorem P_restore {c : Nat} {M : Mm_} (hI : INV c M) (hc : c < 100000) : Cn 4 kX6_restore (.ref 0 :: []) M (PP c 1 kX7_restore []) := by
  have h5 := hI.2.2.2.2.2.2.1
  have h6 := hI.2.2.2.2.2.2.2
  unfold C5 at h5
  have hL : mH M (mAll M 19 8) := hL_all (by decide)
  refine PP_of (c_x_restore M (INV_X hI)) (fun U hS => c_m_restore U (by rw [mH_i hS hL 48 (by decide)]; exact rgm (by omega) (by omega)) (by rw [mH_i hS hL 48 (by decide)]; exact rgm (by omega) (by omega))) (fun U hS r2 N h => ?_)
  obtain ⟨rfl, hN1, hN2⟩ := h
  have e48 := mH_i hS hL 48 (by decide)
  rw [e48] at hN1 hN2
  rw [e48]
  by_cases q : M.1 0 5 = 1
  · have q2 := h5.2.2.2.2.mp q
    rw [if_pos q] at hS ⊢
    rw [if_pos q2, (h6 q).1.2.2.2.2.2.2.2.1]
    exact ⟨rfl, INV_up (K_restore hI q hS.1 (hN1 q2))⟩
  · have q2 : ¬ M.1 48 26 = M.1 48 9 := fun z => q (h5.2.2.2.2.mpr z)
    rw [if_neg q] at hS ⊢
    rw [if_neg q2]
    exact ⟨rfl, INV_up (INV_z (zS_m (hN2 q2)) (INV_z (zS_x hS) hI))⟩
