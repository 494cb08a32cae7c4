
/-- THE CLASS'S STATE, as it always is -/
def oX (M : Mm_) : Prop := oP M ∧ oV M ∧ oF (M.1 9) (M.1 10) (M.1 8 7) (M.1 13) (M.1 14) ∧ (∀ i, i < 4 → 0 ≤ M.1 12 i ∧ M.1 12 i ≤ 99) ∧ (0 ≤ M.1 8 8 ∧ M.1 8 8 < 2 ^ (M.1 3 5).toNat) ∧ (0 ≤ M.1 8 9 ∧ M.1 8 9 ≤ 99) ∧ ((0 ≤ M.1 15 3 ∧ M.1 15 3 ≤ 6) ∧ (∀ i, i < 6 → 0 ≤ M.1 16 i ∧ M.1 16 i ≤ 3) ∧ (∀ i, i < 6 → 0 ≤ M.1 17 i ∧ M.1 17 i ≤ 2) ∧ (∀ i, i < 6 → 0 ≤ M.1 18 i ∧ M.1 18 i ≤ 99)) ∧ (0 ≤ M.1 0 7 ∧ M.1 0 7 ≤ 30) ∧ (0 ≤ M.1 0 8 ∧ M.1 0 8 ≤ 20) ∧ (M.1 0 5 = 0 ∨ M.1 0 5 = 1)
theorem pw_b {k : Nat} (hk : k ≤ 6) : (1 : Int) ≤ 2 ^ k ∧ (2 : Int) ^ k ≤ 64 := by
  rcases (show k = 0 ∨ k = 1 ∨ k = 2 ∨ k = 3 ∨ k = 4 ∨ k = 5 ∨ k = 6 by omega) with rfl | rfl | rfl | rfl | rfl | rfl | rfl <;> decide
def gwO (gr g : Nat → Int) (a : Int) : Int := tp (g (a / 3).toNat + gr a.toNat) - g (a / 3).toNat

set_option maxRecDepth 10000 in
set_option maxHeartbeats 1000000 in
theorem c_isRowTell (M : Mm_) {a : Int} (ra : rg a) : Cn 1 kX6_isRowTell [.int (zI a)] M (pB (a = 0 ∨ (10 ≤ a ∧ a < 13)) M) := by
  refine Cn.of rfl (Nat.le_of_ble_eq_true rfl) (fun G C E => ?_)
  show G 0 [.int (zI a)] [] M
  refine r_iload_n C rfl dX6_isRowTell_0 ?_
  refine r_if_eq C (tgt := 11) dX6_isRowTell_1 rfl (by first | assumption | exact rgm (by omega) (by omega)) (fun h1 => ?_) (fun h1 => ?_)
  · refine r_iconst C dX6_isRowTell_11 ?_
    refine r_goto C (tgt := 16) dX6_isRowTell_12 rfl ?_
    exact r_zret E dX6_isRowTell_16 (by decide) (pB_t (by omega))
  · refine r_iload_n C rfl dX6_isRowTell_4 ?_
    refine r_cSb C dX6_isRowTell_5 sw_X6_79 (c_isRowPlace M (by assumption)) (by decide) rfl rfl (Nat.le_of_ble_eq_true rfl) (fun h5 => ?_) (fun h5 => ?_)
    · refine r_if_eq C (tgt := 15) dX6_isRowTell_8 rfl (by first | assumption | exact rgm (by omega) (by omega)) (fun h8 => absurd h8 (by decide)) (fun h8 => ?_)
      refine r_iconst C dX6_isRowTell_11 ?_
      refine r_goto C (tgt := 16) dX6_isRowTell_12 rfl ?_
      exact r_zret E dX6_isRowTell_16 (by decide) (pB_t (by omega))
    · refine r_if_eq C (tgt := 15) dX6_isRowTell_8 rfl (by first | assumption | exact rgm (by omega) (by omega)) (fun h8 => ?_) (fun h8 => absurd h8 (by decide))
      refine r_iconst C dX6_isRowTell_15 ?_
      exact r_zret E dX6_isRowTell_16 (by decide) (pB_f (by omega))
set_option maxRecDepth 10000 in
set_option maxHeartbeats 1000000 in
theorem c_hasBottle (M : Mm_) {a : Int} (ra : rg a) (hv : oV M) : Cn 1 kX6_hasBottle [.ref 0, .int (zI a)] M (pB (0 < M.1 3 4 ∧ 0 ≤ a ∧ a < 4) M) := by
  refine Cn.of rfl (Nat.le_of_ble_eq_true rfl) (fun G C E => ?_)
  show G 0 [.ref 0, .int (zI a)] [] M
  refine r_aload_n C rfl dX6_hasBottle_0 ?_
  refine r_getr C dX6_hasBottle_1 fl_X6_19 ly_0 rfl ?_
  refine r_cVb C dX6_hasBottle_4 vw_X6_161 (c_isThere M hv) (by decide) rfl ly_3 rfl rfl (Nat.le_of_ble_eq_true rfl) (fun h4 => ?_) (fun h4 => ?_)
  · refine r_if_eq C (tgt := 23) dX6_hasBottle_7 rfl (by first | assumption | exact rgm (by omega) (by omega)) (fun h7 => absurd h7 (by decide)) (fun h7 => ?_)
    refine r_iload_n C rfl dX6_hasBottle_10 ?_
    refine r_if_lt C (tgt := 23) dX6_hasBottle_11 rfl (by first | assumption | exact rgm (by omega) (by omega)) (fun h11 => ?_) (fun h11 => ?_)
    · refine r_iconst C dX6_hasBottle_23 ?_
      exact r_zret E dX6_hasBottle_24 (by decide) (pB_f (by omega))
    · refine r_iload_n C rfl dX6_hasBottle_14 ?_
      refine r_iconst C dX6_hasBottle_15 ?_
      refine r_icmp_ge C (tgt := 23) dX6_hasBottle_16 rfl (by first | assumption | exact rgm (by omega) (by omega)) (by first | assumption | exact rgm (by omega) (by omega)) (fun h16 => ?_) (fun h16 => ?_)
      · refine r_iconst C dX6_hasBottle_23 ?_
        exact r_zret E dX6_hasBottle_24 (by decide) (pB_f (by omega))
      · refine r_iconst C dX6_hasBottle_19 ?_
        refine r_goto C (tgt := 24) dX6_hasBottle_20 rfl ?_
        exact r_zret E dX6_hasBottle_24 (by decide) (pB_t (by omega))
  · refine r_if_eq C (tgt := 23) dX6_hasBottle_7 rfl (by first | assumption | exact rgm (by omega) (by omega)) (fun h7 => ?_) (fun h7 => absurd h7 (by decide))
    refine r_iconst C dX6_hasBottle_23 ?_
    exact r_zret E dX6_hasBottle_24 (by decide) (pB_f (by omega))
def mLet (M : Mm_) (a : Int) : Mm_ := mU (mU M 2 (M.1 1 1).toNat a) 1 1 (M.1 1 1 + 1)
set_option maxRecDepth 10000 in
set_option maxHeartbeats 1000000 in
theorem c_x_letter (M : Mm_) {a : Int} (ra : rg a) (hX : oX M) : Cn 2 kX6_letter [.ref 0, .int (zI a)] M (fun r U => r = some (.int (zI (if a < 1 ∨ 126 < a then -102 else if 24 ≤ M.1 1 1 then -104 else M.1 1 1 + 1))) ∧ xS (if (1 ≤ a ∧ a ≤ 126) ∧ M.1 1 1 < 24 then mLet M a else M) U) := by
  obtain ⟨hp, hv, hf, hbo, hsb, hng, ⟨hs, hsp, hsw, hsy⟩, hfd, hwd, hhk⟩ := id hX
  have hv0 := hv.1
  have hpw := pw_b (k := (M.1 3 5).toNat) (by omega)
  have hp1 := hp.1
  refine Cn.of rfl (Nat.le_of_ble_eq_true rfl) (fun G C E => ?_)
  show G 0 [.ref 0, .int (zI a)] [] M
  refine r_iload_n C rfl dX6_letter_0 ?_
  refine r_iconst C dX6_letter_1 ?_
  refine r_icmp_lt C (tgt := 11) dX6_letter_2 rfl (by first | assumption | exact rgm (by omega) (by omega)) (by first | assumption | exact rgm (by omega) (by omega)) (fun h2 => ?_) (fun h2 => ?_)
  · refine r_bipush C rfl dX6_letter_11 ?_
    exact r_iret E dX6_letter_13 ⟨by rw [if_pos (by omega)], by rw [if_neg (by omega)]; exact xS_rf⟩
  · refine r_iload_n C rfl dX6_letter_5 ?_
    refine r_bipush C rfl dX6_letter_6 ?_
    refine r_icmp_le C (tgt := 14) dX6_letter_8 rfl (by first | assumption | exact rgm (by omega) (by omega)) (by first | assumption | exact rgm (by omega) (by omega)) (fun h8 => ?_) (fun h8 => ?_)
    · refine r_aload_n C rfl dX6_letter_14 ?_
      refine r_getr C dX6_letter_15 fl_X6_10 ly_0 rfl ?_
      refine r_geti C dX6_letter_18 fl_X6_40 ly_1 rfl ?_
      refine r_bipush C rfl dX6_letter_21 ?_
      refine r_icmp_lt C (tgt := 29) dX6_letter_23 rfl (by first | assumption | exact rgm (by omega) (by omega)) (by first | assumption | exact rgm (by omega) (by omega)) (fun h23 => ?_) (fun h23 => ?_)
      · refine r_aload_n C rfl dX6_letter_29 ?_
        refine r_getr C dX6_letter_30 fl_X6_10 ly_0 rfl ?_
        refine r_iload_n C rfl dX6_letter_33 ?_
        refine r_cVv C dX6_letter_34 vw_X6_44 (c_pageAdd M (by omega) (by omega)) (by decide) rfl ly_1 rfl rfl (Nat.le_of_ble_eq_true rfl) ?_
        refine r_aload_n C rfl dX6_letter_37 ?_
        refine r_getr C dX6_letter_38 fl_X6_10 ly_0 rfl ?_
        refine r_geti C dX6_letter_41 fl_X6_40 ly_1 rfl ?_
        exact r_iret E dX6_letter_44 ⟨by rw [if_neg (by omega), if_neg (by omega)]; simp [mU], by rw [if_pos (by omega)]; exact xS_rf⟩
      · refine r_bipush C rfl dX6_letter_26 ?_
        exact r_iret E dX6_letter_28 ⟨by rw [if_neg (by omega), if_pos (by omega)], by rw [if_neg (by omega)]; exact xS_rf⟩
    · refine r_bipush C rfl dX6_letter_11 ?_
      exact r_iret E dX6_letter_13 ⟨by rw [if_pos (by omega)], by rw [if_neg (by omega)]; exact xS_rf⟩
set_option maxRecDepth 10000 in
set_option maxHeartbeats 1000000 in
theorem c_x_blank (M : Mm_) (hX : oX M) : Cn 2 kX6_blank [.ref 0] M (fun r U => r = some (.int (zI (M.1 1 1))) ∧ xS (mU M 1 1 0) U) := by
  obtain ⟨hp, hv, hf, hbo, hsb, hng, ⟨hs, hsp, hsw, hsy⟩, hfd, hwd, hhk⟩ := id hX
  have hv0 := hv.1
  have hpw := pw_b (k := (M.1 3 5).toNat) (by omega)
  have hp1 := hp.1
  refine Cn.of rfl (Nat.le_of_ble_eq_true rfl) (fun G C E => ?_)
  show G 0 [.ref 0] [] M
  refine r_aload_n C rfl dX6_blank_0 ?_
  refine r_getr C dX6_blank_1 fl_X6_10 ly_0 rfl ?_
  refine r_cVw C dX6_blank_4 vw_X6_48 (c_pageClear M) (by decide) rfl ly_1 rfl rfl (Nat.le_of_ble_eq_true rfl) ?_
  exact r_iret E dX6_blank_7 ⟨rfl, xS_rf⟩
set_option maxRecDepth 10000 in
set_option maxHeartbeats 1000000 in
theorem c_x_fault (M : Mm_) (hX : oX M) : Cn 6 kX6_fault [.ref 0] M (fun r U => r = some (.int (zI ((flt (M.1 2) (M.1 1 1).toNat 0 : Nat)))) ∧ xS (M) U) := by
  obtain ⟨hp, hv, hf, hbo, hsb, hng, ⟨hs, hsp, hsw, hsy⟩, hfd, hwd, hhk⟩ := id hX
  have hv0 := hv.1
  have hpw := pw_b (k := (M.1 3 5).toNat) (by omega)
  have hp1 := hp.1
  refine Cn.of rfl (Nat.le_of_ble_eq_true rfl) (fun G C E => ?_)
  show G 0 [.ref 0] [] M
  refine r_aload_n C rfl dX6_fault_0 ?_
  refine r_getr C dX6_fault_1 fl_X6_10 ly_0 rfl ?_
  refine r_cVz C dX6_fault_4 vw_X6_52 (c_firstFault M hp) (by decide) rfl ly_1 rfl rfl (Nat.le_of_ble_eq_true rfl) ?_
  exact r_iret E dX6_fault_7 ⟨rfl, xS_rf⟩

def mVal (M : Mm_) (e k m : Nat) : Mm_ := mU (mU (mU (rdM (mClear M) (M.1 2) e k m k k k (3 * k) m) 1 1 0) 0 5 0) 0 6 (M.1 0 6 + 1)
theorem mClear_ne {M : Mm_} {x : Nat} (h : x ≠ 8 ∧ x ≠ 9 ∧ x ≠ 10 ∧ x ≠ 11 ∧ x ≠ 12 ∧ x ≠ 15) : (mClear M).1 x = M.1 x := by
  unfold mClear
  rw [mU_ne h.1, mU_ne h.1, mU_ne h.1, mU_ne h.1, mU_ne h.2.2.2.2.2, mR_ne h.2.2.2.2.1, mR_ne h.2.2.2.1, mR_ne h.2.2.1, mR_ne h.2.1]

set_option maxRecDepth 10000 in
set_option maxHeartbeats 1000000 in
theorem c_x_valley_no (M : Mm_) (hX : oX M) (hvl : ¬ isVl (M.1 2) (M.1 1 1).toNat) : Cn 7 kX6_valley [.ref 0] M (fun r U => r = some (.int (zI (-103))) ∧ xS (M) U) := by
  obtain ⟨hp, hv, hf, hbo, hsb, hng, ⟨hs, hsp, hsw, hsy⟩, hfd, hwd, hhk⟩ := id hX
  have hv0 := hv.1
  have hpw := pw_b (k := (M.1 3 5).toNat) (by omega)
  have hp1 := hp.1
  refine Cn.of rfl (Nat.le_of_ble_eq_true rfl) (fun G C E => ?_)
  show G 0 [.ref 0] [] M
  refine r_aload_n C rfl dX6_valley_0 ?_
  refine r_getr C dX6_valley_1 fl_X6_10 ly_0 rfl ?_
  refine r_cVb C dX6_valley_4 vw_X6_55 (c_isValley M hp) (by decide) rfl ly_1 rfl rfl (Nat.le_of_ble_eq_true rfl) (fun h4 => absurd h4 hvl) (fun h4 => ?_)
  refine r_if_ne C (tgt := 13) dX6_valley_7 rfl (by first | assumption | exact rgm (by omega) (by omega)) (fun h7 => absurd h7 (by decide)) (fun h7 => ?_)
  refine r_bipush C rfl dX6_valley_10 ?_
  exact r_iret E dX6_valley_12 ⟨rfl, xS_rf⟩
set_option maxRecDepth 10000 in
set_option maxHeartbeats 1000000 in
theorem c_x_valley (M : Mm_) (hX : oX M) (hvl : isVl (M.1 2) (M.1 1 1).toNat) {e k m : Nat} (hmk : mkp (M.1 2) (M.1 1 1).toNat = e) (hek : e + 1 = 4 * k) (hk2 : 2 ≤ k) (hk4 : k ≤ 4) (hnm : M.1 1 1 = e + 1 + m) (hm2 : 2 ≤ m) (hm6 : m ≤ 6) (hpp : ∀ i, i < k → 0 ≤ ixF (M.1 2 (4 * i)) ∧ (49 ≤ M.1 2 (4 * i + 1) ∧ M.1 2 (4 * i + 1) ≤ 57) ∧ (48 ≤ M.1 2 (4 * i + 2) ∧ M.1 2 (4 * i + 2) ≤ 53)) : Cn 7 kX6_valley [.ref 0] M (fun r U => r = some (.int (zI ((m : Int)))) ∧ xS (mVal M e k m) U) := by
  obtain ⟨hp, hv, hf, hbo, hsb, hng, ⟨hs, hsp, hsw, hsy⟩, hfd, hwd, hhk⟩ := id hX
  have hv0 := hv.1
  have hpw := pw_b (k := (M.1 3 5).toNat) (by omega)
  have hp1 := hp.1
  have e1 : (mClear M).1 1 = M.1 1 := mClear_ne (by decide)
  have e2 : (mClear M).1 2 = M.1 2 := mClear_ne (by decide)
  have hpC : oP (mClear M) := by unfold oP; rw [e1, e2]; exact hp
  refine Cn.of rfl (Nat.le_of_ble_eq_true rfl) (fun G C E => ?_)
  show G 0 [.ref 0] [] M
  refine r_aload_n C rfl dX6_valley_0 ?_
  refine r_getr C dX6_valley_1 fl_X6_10 ly_0 rfl ?_
  refine r_cVb C dX6_valley_4 vw_X6_55 (c_isValley M hp) (by decide) rfl ly_1 rfl rfl (Nat.le_of_ble_eq_true rfl) (fun h4 => ?_) (fun h4 => absurd (by exact hvl) h4)
  refine r_if_ne C (tgt := 13) dX6_valley_7 rfl (by first | assumption | exact rgm (by omega) (by omega)) (fun h7 => ?_) (fun h7 => absurd h7 (by decide))
  refine r_aload_n C rfl dX6_valley_13 ?_
  refine r_getr C dX6_valley_14 fl_X6_26 ly_0 rfl ?_
  refine r_cVv C dX6_valley_17 vw_X6_59 (c_clear M) (by decide) rfl ly_8 rfl rfl (Nat.le_of_ble_eq_true rfl) ?_
  refine r_aload_n C rfl dX6_valley_20 ?_
  refine r_getr C dX6_valley_21 fl_X6_19 ly_0 rfl ?_
  refine r_aload_n C rfl dX6_valley_24 ?_
  refine r_getr C dX6_valley_25 fl_X6_10 ly_0 rfl ?_
  refine r_aload_n C rfl dX6_valley_28 ?_
  refine r_getr C dX6_valley_29 fl_X6_26 ly_0 rfl ?_
  refine r_cVv C dX6_valley_32 vw_X6_61 (c_read (mClear M) (e := e) (k := k) (m := m) hpC (by rw [e1, e2]; exact hvl) (by rw [e1, e2]; exact hmk) hek ⟨hk2, hk4⟩ (by rw [e1]; omega) ⟨hm2, hm6⟩ (by rw [e2]; exact hpp)) (by decide) rfl ly_3 rfl rfl (Nat.le_of_ble_eq_true rfl) ?_
  rw [e2]
  refine r_aload_n C rfl dX6_valley_35 ?_
  refine r_getr C dX6_valley_36 fl_X6_10 ly_0 rfl ?_
  refine r_cVw C dX6_valley_39 vw_X6_48 (c_pageClear _) (by decide) rfl ly_1 rfl rfl (Nat.le_of_ble_eq_true rfl) ?_
  refine r_pop C rfl dX6_valley_42 ?_
  refine r_aload_n C rfl dX6_valley_43 ?_
  refine r_iconst C dX6_valley_44 ?_
  refine r_put C dX6_valley_45 fl_X6_65 rfl (Or.inr ⟨rfl, by decide⟩) ly_0 rfl ?_
  refine r_aload_n C rfl dX6_valley_48 ?_
  refine r_dup C rfl dX6_valley_49 ?_
  refine r_geti C dX6_valley_50 fl_X6_69 ly_0 rfl ?_
  refine r_iconst C dX6_valley_53 ?_
  refine r_iadd C dX6_valley_54 ?_
  refine r_put C dX6_valley_55 fl_X6_69 rfl (Or.inl rfl) ly_0 rfl ?_
  refine r_aload_n C rfl dX6_valley_58 ?_
  refine r_getr C dX6_valley_59 fl_X6_19 ly_0 rfl ?_
  refine r_geti C dX6_valley_62 fl_X6_72 ly_3 rfl ?_
  skip
  exact r_iret E dX6_valley_65 (by
    have e06 : (mU (mU (rdM (mClear M) (M.1 2) e k m k k k (3 * k) m) 1 1 0) 0 5 0).1 0 6 = M.1 0 6 := by
      rw [show (mU (mU (rdM (mClear M) (M.1 2) e k m k k k (3 * k) m) 1 1 0) 0 5 0).1 0 6 = (rdM (mClear M) (M.1 2) e k m k k k (3 * k) m).1 0 6 by simp [mU], rd_ne (by decide), mClear_ne (by decide)]
    rw [e06]
    refine ⟨?_, xS_rf⟩
    simp [mU, rdM])

def vPer (M : Mm_) (k : Nat) (w : Int) : Int := if 10 ≤ w ∧ w < 13 then gwO (M.1 6) (M.1 9) ((k : Int) * 3 + w - 10) else if w = 0 then M.1 4 k else if w = 1 then M.1 5 k else if w = 2 then M.1 10 k else if w = 3 then M.1 9 k else if w = 4 then M.1 11 k else if w = 5 then (stN (seatF (M.1 7) (M.1 9) (M.1 10) (M.1 8 7) (M.1 13) (M.1 14) (M.1 3 5).toNat k) 6).1 else if w = 6 then (stN (seatF (M.1 7) (M.1 9) (M.1 10) (M.1 8 7) (M.1 13) (M.1 14) (M.1 3 5).toNat k) 6).2 else if w = 7 then prd (M.1 16) (M.1 17) (M.1 18) (M.1 15 3).toNat (k : Int) (M.1 4 k) else if w = 8 then bTry (M.1 4 k) (prd (M.1 16) (M.1 17) (M.1 18) (M.1 15 3).toNat (k : Int) (M.1 4 k)) else -102

set_option maxRecDepth 10000 in
set_option maxHeartbeats 1000000 in
theorem c_x_person (M : Mm_) {k : Nat} {w : Int} (hk : (k : Int) < M.1 3 4) (rw_ : rg w) (hX : oX M) : Cn 5 kX6_person [.ref 0, .int (zI (k : Int)), .int (zI w)] M (fun r U => r = some (.int (zI (vPer M k w))) ∧ xS (M) U) := by
  obtain ⟨hp, hv, hf, hbo, hsb, hng, ⟨hs, hsp, hsw, hsy⟩, hfd, hwd, hhk⟩ := id hX
  have hv0 := hv.1
  have hpw := pw_b (k := (M.1 3 5).toNat) (by omega)
  have hp1 := hp.1
  have rk : rg (k : Int) := rgm (by omega) (by omega)
  have hkk := hv.2.1 k (by omega)
  refine Cn.of rfl (Nat.le_of_ble_eq_true rfl) (fun G C E => ?_)
  show G 0 [.ref 0, .int (zI (k : Int)), .int (zI w)] [] M
  refine r_aload_n C rfl dX6_person_0 ?_
  refine r_getr C dX6_person_1 fl_X6_19 ly_0 rfl ?_
  refine r_iload_n C rfl dX6_person_4 ?_
  refine r_cVb C dX6_person_5 vw_X6_75 (c_hasPerson M (by assumption) hv) (by decide) rfl ly_3 rfl rfl (Nat.le_of_ble_eq_true rfl) (fun h5 => ?_) (fun h5 => absurd (by omega) h5)
  refine r_if_ne C (tgt := 14) dX6_person_8 rfl (by first | assumption | exact rgm (by omega) (by omega)) (fun h8 => ?_) (fun h8 => absurd h8 (by decide))
  refine r_iload_n C rfl dX6_person_14 ?_
  refine r_cSb C dX6_person_15 sw_X6_79 (c_isRowPlace M (by assumption)) (by decide) rfl rfl (Nat.le_of_ble_eq_true rfl) (fun h15 => ?_) (fun h15 => ?_)
  · refine r_if_eq C (tgt := 41) dX6_person_18 rfl (by first | assumption | exact rgm (by omega) (by omega)) (fun h18 => absurd h18 (by decide)) (fun h18 => ?_)
    refine r_aload_n C rfl dX6_person_21 ?_
    refine r_getr C dX6_person_22 fl_X6_19 ly_0 rfl ?_
    refine r_aload_n C rfl dX6_person_25 ?_
    refine r_getr C dX6_person_26 fl_X6_26 ly_0 rfl ?_
    refine r_iload_n C rfl dX6_person_29 ?_
    refine r_iconst C dX6_person_30 ?_
    refine r_imul C dX6_person_31 ?_
    refine r_iload_n C rfl dX6_person_32 ?_
    refine r_iadd C dX6_person_33 ?_
    refine r_bipush C rfl dX6_person_34 ?_
    refine r_isub C dX6_person_36 ?_
    refine r_cVz C dX6_person_37 vw_X6_82 (c_growth M (by omega) (by omega) hv hf.1) (by decide) rfl ly_3 rfl rfl (Nat.le_of_ble_eq_true rfl) ?_
    exact r_iret E dX6_person_40 ⟨by unfold vPer gwO; rw [if_pos h15], xS_rf⟩
  · refine r_if_eq C (tgt := 41) dX6_person_18 rfl (by first | assumption | exact rgm (by omega) (by omega)) (fun h18 => ?_) (fun h18 => absurd h18 (by decide))
    refine r_iload_n C rfl dX6_person_41 ?_
    by_cases hout : w < 0 ∨ 8 < w
    · refine r_tout C (tgt := 238) dX6_person_42 (by first | assumption | exact rgm (by omega) (by omega)) hout rfl ?_
      refine r_bipush C rfl dX6_person_238 ?_
      exact r_iret E dX6_person_240 ⟨by unfold vPer; rw [if_neg h15, if_neg (by omega), if_neg (by omega), if_neg (by omega), if_neg (by omega), if_neg (by omega), if_neg (by omega), if_neg (by omega), if_neg (by omega), if_neg (by omega)], xS_rf⟩
    · rcases (show w = 0 ∨ w = 1 ∨ w = 2 ∨ w = 3 ∨ w = 4 ∨ w = 5 ∨ w = 6 ∨ w = 7 ∨ w = 8 by omega) with hsw | hsw | hsw | hsw | hsw | hsw | hsw | hsw | hsw
      · have hsw2 := hsw
        subst hsw
        refine r_tin C (tgt := 92) dX6_person_42 (by first | assumption | exact rgm (by omega) (by omega)) (by omega) (by omega) (off := 50) rfl rfl ?_
        refine r_aload_n C rfl dX6_person_92 ?_
        refine r_getr C dX6_person_93 fl_X6_19 ly_0 rfl ?_
        refine r_getr C dX6_person_96 fl_X6_86 ly_3 rfl ?_
        refine r_iload_n C rfl dX6_person_99 ?_
        refine r_iald C dX6_person_100 ly_4 rfl (by omega) ?_
        exact r_iret E dX6_person_101 ⟨by unfold vPer; rw [if_neg h15, if_pos rfl], xS_rf⟩
      · have hsw2 := hsw
        subst hsw
        refine r_tin C (tgt := 102) dX6_person_42 (by first | assumption | exact rgm (by omega) (by omega)) (by omega) (by omega) (off := 60) rfl rfl ?_
        refine r_aload_n C rfl dX6_person_102 ?_
        refine r_getr C dX6_person_103 fl_X6_19 ly_0 rfl ?_
        refine r_getr C dX6_person_106 fl_X6_90 ly_3 rfl ?_
        refine r_iload_n C rfl dX6_person_109 ?_
        refine r_iald C dX6_person_110 ly_5 rfl (by omega) ?_
        exact r_iret E dX6_person_111 ⟨by unfold vPer; rw [if_neg h15, if_neg (by decide), if_pos rfl], xS_rf⟩
      · have hsw2 := hsw
        subst hsw
        refine r_tin C (tgt := 112) dX6_person_42 (by first | assumption | exact rgm (by omega) (by omega)) (by omega) (by omega) (off := 70) rfl rfl ?_
        refine r_aload_n C rfl dX6_person_112 ?_
        refine r_getr C dX6_person_113 fl_X6_26 ly_0 rfl ?_
        refine r_getr C dX6_person_116 fl_X6_93 ly_8 rfl ?_
        refine r_iload_n C rfl dX6_person_119 ?_
        refine r_iald C dX6_person_120 ly_10 rfl (by omega) ?_
        exact r_iret E dX6_person_121 ⟨by unfold vPer; rw [if_neg h15, if_neg (by decide), if_neg (by decide), if_pos rfl], xS_rf⟩
      · have hsw2 := hsw
        subst hsw
        refine r_tin C (tgt := 122) dX6_person_42 (by first | assumption | exact rgm (by omega) (by omega)) (by omega) (by omega) (off := 80) rfl rfl ?_
        refine r_aload_n C rfl dX6_person_122 ?_
        refine r_getr C dX6_person_123 fl_X6_26 ly_0 rfl ?_
        refine r_getr C dX6_person_126 fl_X6_96 ly_8 rfl ?_
        refine r_iload_n C rfl dX6_person_129 ?_
        refine r_iald C dX6_person_130 ly_9 rfl (by omega) ?_
        exact r_iret E dX6_person_131 ⟨by unfold vPer; rw [if_neg h15, if_neg (by decide), if_neg (by decide), if_neg (by decide), if_pos rfl], xS_rf⟩
      · have hsw2 := hsw
        subst hsw
        refine r_tin C (tgt := 132) dX6_person_42 (by first | assumption | exact rgm (by omega) (by omega)) (by omega) (by omega) (off := 90) rfl rfl ?_
        refine r_aload_n C rfl dX6_person_132 ?_
        refine r_getr C dX6_person_133 fl_X6_26 ly_0 rfl ?_
        refine r_getr C dX6_person_136 fl_X6_99 ly_8 rfl ?_
        refine r_iload_n C rfl dX6_person_139 ?_
        refine r_iald C dX6_person_140 ly_11 rfl (by omega) ?_
        exact r_iret E dX6_person_141 ⟨by unfold vPer; rw [if_neg h15, if_neg (by decide), if_neg (by decide), if_neg (by decide), if_neg (by decide), if_pos rfl], xS_rf⟩
      · have hsw2 := hsw
        subst hsw
        refine r_tin C (tgt := 142) dX6_person_42 (by first | assumption | exact rgm (by omega) (by omega)) (by omega) (by omega) (off := 100) rfl rfl ?_
        refine r_aload_n C rfl dX6_person_142 ?_
        refine r_getr C dX6_person_143 fl_X6_36 ly_0 rfl ?_
        refine r_aload_n C rfl dX6_person_146 ?_
        refine r_getr C dX6_person_147 fl_X6_19 ly_0 rfl ?_
        refine r_aload_n C rfl dX6_person_150 ?_
        refine r_getr C dX6_person_151 fl_X6_26 ly_0 rfl ?_
        refine r_iload_n C rfl dX6_person_154 ?_
        refine r_callV C dX6_person_155 vw_X6_102 (c_findSeat M (by omega) hv hf) (by decide) rfl ly_41 rfl rfl (Nat.le_of_ble_eq_true rfl) ?_
        intro r T h
        obtain ⟨rfl, hS, h41⟩ := h
        try dsimp only [Option.toList, List.cons_append, List.nil_append]
        exact r_iret E dX6_person_158 ⟨by unfold vPer; rw [if_neg h15, if_neg (by decide), if_neg (by decide), if_neg (by decide), if_neg (by decide), if_neg (by decide), if_pos rfl], hS⟩
      · have hsw2 := hsw
        subst hsw
        refine r_tin C (tgt := 159) dX6_person_42 (by first | assumption | exact rgm (by omega) (by omega)) (by omega) (by omega) (off := 117) rfl rfl ?_
        refine r_aload_n C rfl dX6_person_159 ?_
        refine r_getr C dX6_person_160 fl_X6_36 ly_0 rfl ?_
        refine r_aload_n C rfl dX6_person_163 ?_
        refine r_getr C dX6_person_164 fl_X6_19 ly_0 rfl ?_
        refine r_aload_n C rfl dX6_person_167 ?_
        refine r_getr C dX6_person_168 fl_X6_26 ly_0 rfl ?_
        refine r_iload_n C rfl dX6_person_171 ?_
        refine r_callV C dX6_person_172 vw_X6_102 (c_findSeat M (by omega) hv hf) (by decide) rfl ly_41 rfl rfl (Nat.le_of_ble_eq_true rfl) ?_
        intro r T h
        obtain ⟨rfl, hS, h41⟩ := h
        try dsimp only [Option.toList, List.cons_append, List.nil_append]
        refine r_pop C rfl dX6_person_175 ?_
        refine r_aload_n C rfl dX6_person_176 ?_
        refine r_getr C dX6_person_177 fl_X6_36 ly_0 rfl ?_
        refine r_geti C dX6_person_180 fl_X6_106 ly_41 rfl ?_
        exact r_iret E dX6_person_183 ⟨by unfold vPer; rw [if_neg h15, if_neg (by decide), if_neg (by decide), if_neg (by decide), if_neg (by decide), if_neg (by decide), if_neg (by decide), if_pos rfl, h41], hS⟩
      · have hsw2 := hsw
        subst hsw
        refine r_tin C (tgt := 184) dX6_person_42 (by first | assumption | exact rgm (by omega) (by omega)) (by omega) (by omega) (off := 142) rfl rfl ?_
        refine r_aload_n C rfl dX6_person_184 ?_
        refine r_getr C dX6_person_185 fl_X6_26 ly_0 rfl ?_
        refine r_getr C dX6_person_188 fl_X6_109 ly_8 rfl ?_
        refine r_iload_n C rfl dX6_person_191 ?_
        refine r_aload_n C rfl dX6_person_192 ?_
        refine r_getr C dX6_person_193 fl_X6_19 ly_0 rfl ?_
        refine r_getr C dX6_person_196 fl_X6_86 ly_3 rfl ?_
        refine r_iload_n C rfl dX6_person_199 ?_
        refine r_iald C dX6_person_200 ly_4 rfl (by omega) ?_
        refine r_cVz C dX6_person_201 vw_X6_113 (c_prides M (by assumption) hkk hs hsp hsw hsy) (by decide) rfl ly_15 rfl rfl (Nat.le_of_ble_eq_true rfl) ?_
        exact r_iret E dX6_person_204 ⟨by unfold vPer; rw [if_neg h15, if_neg (by decide), if_neg (by decide), if_neg (by decide), if_neg (by decide), if_neg (by decide), if_neg (by decide), if_neg (by decide), if_pos rfl], xS_rf⟩
      · have hsw2 := hsw
        subst hsw
        refine r_tin C (tgt := 205) dX6_person_42 (by first | assumption | exact rgm (by omega) (by omega)) (by omega) (by omega) (off := 163) rfl rfl ?_
        refine r_aload_n C rfl dX6_person_205 ?_
        refine r_getr C dX6_person_206 fl_X6_19 ly_0 rfl ?_
        refine r_getr C dX6_person_209 fl_X6_86 ly_3 rfl ?_
        refine r_iload_n C rfl dX6_person_212 ?_
        refine r_iald C dX6_person_213 ly_4 rfl (by omega) ?_
        refine r_aload_n C rfl dX6_person_214 ?_
        refine r_getr C dX6_person_215 fl_X6_26 ly_0 rfl ?_
        refine r_getr C dX6_person_218 fl_X6_109 ly_8 rfl ?_
        refine r_iload_n C rfl dX6_person_221 ?_
        refine r_aload_n C rfl dX6_person_222 ?_
        refine r_getr C dX6_person_223 fl_X6_19 ly_0 rfl ?_
        refine r_getr C dX6_person_226 fl_X6_86 ly_3 rfl ?_
        refine r_iload_n C rfl dX6_person_229 ?_
        refine r_iald C dX6_person_230 ly_4 rfl (by omega) ?_
        refine r_cVz C dX6_person_231 vw_X6_113 (c_prides M (by assumption) hkk hs hsp hsw hsy) (by decide) rfl ly_15 rfl rfl (Nat.le_of_ble_eq_true rfl) ?_
        refine r_cSz C dX6_person_234 sw_X6_118 (c_bestTry M hkk (prd_b _ _ _ _ _ _).1 (prd_b _ _ _ _ _ _).2) (by decide) rfl rfl (Nat.le_of_ble_eq_true rfl) ?_
        exact r_iret E dX6_person_237 ⟨by unfold vPer; rw [if_neg h15, if_neg (by decide), if_neg (by decide), if_neg (by decide), if_neg (by decide), if_neg (by decide), if_neg (by decide), if_neg (by decide), if_neg (by decide), if_pos rfl], xS_rf⟩
set_option maxRecDepth 10000 in
set_option maxHeartbeats 1000000 in
theorem c_x_person_no (M : Mm_) {a w : Int} (ra : rg a) (ha : ¬ (0 ≤ a ∧ a < M.1 3 4)) (hX : oX M) : Cn 5 kX6_person [.ref 0, .int (zI a), .int (zI w)] M (fun r U => r = some (.int (zI (-101))) ∧ xS (M) U) := by
  obtain ⟨hp, hv, hf, hbo, hsb, hng, ⟨hs, hsp, hsw, hsy⟩, hfd, hwd, hhk⟩ := id hX
  have hv0 := hv.1
  have hpw := pw_b (k := (M.1 3 5).toNat) (by omega)
  have hp1 := hp.1
  refine Cn.of rfl (Nat.le_of_ble_eq_true rfl) (fun G C E => ?_)
  show G 0 [.ref 0, .int (zI a), .int (zI w)] [] M
  refine r_aload_n C rfl dX6_person_0 ?_
  refine r_getr C dX6_person_1 fl_X6_19 ly_0 rfl ?_
  refine r_iload_n C rfl dX6_person_4 ?_
  refine r_cVb C dX6_person_5 vw_X6_75 (c_hasPerson M (by assumption) hv) (by decide) rfl ly_3 rfl rfl (Nat.le_of_ble_eq_true rfl) (fun h5 => absurd h5 (by omega)) (fun h5 => ?_)
  refine r_if_ne C (tgt := 14) dX6_person_8 rfl (by first | assumption | exact rgm (by omega) (by omega)) (fun h8 => absurd h8 (by decide)) (fun h8 => ?_)
  refine r_bipush C rfl dX6_person_11 ?_
  exact r_iret E dX6_person_13 ⟨rfl, xS_rf⟩
def vAs (kd : Nat → Int) (k : Nat) (q : Int) : Int := if q < 0 ∨ 5 ≤ q then -102 else if q = 0 ∨ kd k = q ∨ (kd k = 4 ∧ q = 1) then (k : Int) else -1
set_option maxRecDepth 10000 in
set_option maxHeartbeats 1000000 in
theorem c_x_as (M : Mm_) {k : Nat} {q : Int} (hk : (k : Int) < M.1 3 4) (rq : rg q) (hX : oX M) : Cn 2 kX6_as [.ref 0, .int (zI (k : Int)), .int (zI q)] M (fun r U => r = some (.int (zI (vAs (M.1 4) k q))) ∧ xS (M) U) := by
  obtain ⟨hp, hv, hf, hbo, hsb, hng, ⟨hs, hsp, hsw, hsy⟩, hfd, hwd, hhk⟩ := id hX
  have hv0 := hv.1
  have hpw := pw_b (k := (M.1 3 5).toNat) (by omega)
  have hp1 := hp.1
  have rk : rg (k : Int) := rgm (by omega) (by omega)
  have hkk := hv.2.1 k (by omega)
  refine Cn.of rfl (Nat.le_of_ble_eq_true rfl) (fun G C E => ?_)
  show G 0 [.ref 0, .int (zI (k : Int)), .int (zI q)] [] M
  refine r_aload_n C rfl dX6_as_0 ?_
  refine r_getr C dX6_as_1 fl_X6_19 ly_0 rfl ?_
  refine r_iload_n C rfl dX6_as_4 ?_
  refine r_cVb C dX6_as_5 vw_X6_75 (c_hasPerson M (by assumption) hv) (by decide) rfl ly_3 rfl rfl (Nat.le_of_ble_eq_true rfl) (fun h5 => ?_) (fun h5 => absurd (by omega) h5)
  refine r_if_ne C (tgt := 14) dX6_as_8 rfl (by first | assumption | exact rgm (by omega) (by omega)) (fun h8 => ?_) (fun h8 => absurd h8 (by decide))
  refine r_iload_n C rfl dX6_as_14 ?_
  refine r_if_lt C (tgt := 23) dX6_as_15 rfl (by first | assumption | exact rgm (by omega) (by omega)) (fun h15 => ?_) (fun h15 => ?_)
  · refine r_bipush C rfl dX6_as_23 ?_
    exact r_iret E dX6_as_25 ⟨by unfold vAs; first | rw [if_pos (by omega)] | rw [if_neg (by omega), if_pos (by omega)] | rw [if_neg (by omega), if_neg (by omega)], xS_rf⟩
  · refine r_iload_n C rfl dX6_as_18 ?_
    refine r_iconst C dX6_as_19 ?_
    refine r_icmp_lt C (tgt := 26) dX6_as_20 rfl (by first | assumption | exact rgm (by omega) (by omega)) (by first | assumption | exact rgm (by omega) (by omega)) (fun h20 => ?_) (fun h20 => ?_)
    · refine r_aload_n C rfl dX6_as_26 ?_
      refine r_getr C dX6_as_27 fl_X6_19 ly_0 rfl ?_
      refine r_getr C dX6_as_30 fl_X6_86 ly_3 rfl ?_
      refine r_iload_n C rfl dX6_as_33 ?_
      refine r_iald C dX6_as_34 ly_4 rfl (by omega) ?_
      refine r_iload_n C rfl dX6_as_35 ?_
      refine r_cSb C dX6_as_36 sw_X6_123 (c_isOf M (rgm (by omega) (by omega)) (by assumption)) (by decide) rfl rfl (Nat.le_of_ble_eq_true rfl) (fun h36 => ?_) (fun h36 => ?_)
      · refine r_if_eq C (tgt := 46) dX6_as_39 rfl (by first | assumption | exact rgm (by omega) (by omega)) (fun h39 => absurd h39 (by decide)) (fun h39 => ?_)
        refine r_iload_n C rfl dX6_as_42 ?_
        refine r_goto C (tgt := 47) dX6_as_43 rfl ?_
        exact r_iret E dX6_as_47 ⟨by unfold vAs; first | rw [if_pos (by omega)] | rw [if_neg (by omega), if_pos (by omega)] | rw [if_neg (by omega), if_neg (by omega)], xS_rf⟩
      · refine r_if_eq C (tgt := 46) dX6_as_39 rfl (by first | assumption | exact rgm (by omega) (by omega)) (fun h39 => ?_) (fun h39 => absurd h39 (by decide))
        refine r_iconst C dX6_as_46 ?_
        exact r_iret E dX6_as_47 ⟨by unfold vAs; first | rw [if_pos (by omega)] | rw [if_neg (by omega), if_pos (by omega)] | rw [if_neg (by omega), if_neg (by omega)], xS_rf⟩
    · refine r_bipush C rfl dX6_as_23 ?_
      exact r_iret E dX6_as_25 ⟨by unfold vAs; first | rw [if_pos (by omega)] | rw [if_neg (by omega), if_pos (by omega)] | rw [if_neg (by omega), if_neg (by omega)], xS_rf⟩
set_option maxRecDepth 10000 in
set_option maxHeartbeats 1000000 in
theorem c_x_as_no (M : Mm_) {a w : Int} (ra : rg a) (ha : ¬ (0 ≤ a ∧ a < M.1 3 4)) (hX : oX M) : Cn 2 kX6_as [.ref 0, .int (zI a), .int (zI w)] M (fun r U => r = some (.int (zI (-101))) ∧ xS (M) U) := by
  obtain ⟨hp, hv, hf, hbo, hsb, hng, ⟨hs, hsp, hsw, hsy⟩, hfd, hwd, hhk⟩ := id hX
  have hv0 := hv.1
  have hpw := pw_b (k := (M.1 3 5).toNat) (by omega)
  have hp1 := hp.1
  refine Cn.of rfl (Nat.le_of_ble_eq_true rfl) (fun G C E => ?_)
  show G 0 [.ref 0, .int (zI a), .int (zI w)] [] M
  refine r_aload_n C rfl dX6_as_0 ?_
  refine r_getr C dX6_as_1 fl_X6_19 ly_0 rfl ?_
  refine r_iload_n C rfl dX6_as_4 ?_
  refine r_cVb C dX6_as_5 vw_X6_75 (c_hasPerson M (by assumption) hv) (by decide) rfl ly_3 rfl rfl (Nat.le_of_ble_eq_true rfl) (fun h5 => absurd h5 (by omega)) (fun h5 => ?_)
  refine r_if_ne C (tgt := 14) dX6_as_8 rfl (by first | assumption | exact rgm (by omega) (by omega)) (fun h8 => absurd h8 (by decide)) (fun h8 => ?_)
  refine r_bipush C rfl dX6_as_11 ?_
  exact r_iret E dX6_as_13 ⟨rfl, xS_rf⟩
