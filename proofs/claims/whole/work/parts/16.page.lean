
/-! THE PAGE: its grammar -/
def mkp (c : Nat → Int) : Nat → Int
  | 0 => -1
  | n + 1 => if mkp c n ≠ -1 then mkp c n else if c n = 59 then (n : Int) else -1
def okP (c : Nat → Int) (i : Nat) : Bool :=
  if i % 4 = 0 then decide (0 ≤ ixF (c i)) else if i % 4 = 1 then decide (49 ≤ c i ∧ c i ≤ 57) else if i % 4 = 2 then decide (48 ≤ c i ∧ c i ≤ 53) else decide ((c i = 44 ∧ i < 15) ∨ (c i = 59 ∧ 3 < i))
def enP (c : Nat → Int) : Nat → Int
  | 0 => -1
  | i + 1 => if enP c i = -1 ∧ okP c i = true ∧ c i = 59 then (i : Int) else enP c i
def gd (c : Nat → Int) (i : Nat) : Bool := if enP c i = -1 then okP c i else decide ((i : Int) - enP c i < 7 ∧ 49 ≤ c i ∧ c i ≤ 57)
def flt (c : Nat → Int) : Nat → Nat → Nat
  | 0, i => i
  | r + 1, i => if gd c i = true then flt c r (i + 1) else i
def gpre (c : Nat → Int) (i : Nat) : Prop := ∀ j, j < i → gd c j = true
def oP (M : Mm_) : Prop := (0 ≤ M.1 1 1 ∧ M.1 1 1 ≤ 24) ∧ ∀ i, i < 24 → 0 ≤ M.1 2 i ∧ M.1 2 i ≤ 126
theorem mkp_b (c : Nat → Int) : ∀ n, -1 ≤ mkp c n ∧ mkp c n < n ∧ (mkp c n = -1 → ∀ j, j < n → c j ≠ 59) ∧ (mkp c n ≠ -1 → c (mkp c n).toNat = 59 ∧ ∀ j : Nat, (j : Int) < mkp c n → c j ≠ 59)
  | 0 => ⟨by show (-1 : Int) ≤ -1; omega, by show (-1 : Int) < ((0 : Nat) : Int); omega, fun _ j hj => absurd hj (Nat.not_lt_zero j), fun h => absurd rfl h⟩
  | n + 1 => by
    obtain ⟨h1, h2, h3, h4⟩ := mkp_b c n
    unfold mkp
    by_cases hn : mkp c n ≠ -1
    · rw [if_pos hn]
      exact ⟨h1, by omega, fun h => absurd h hn, fun _ => h4 hn⟩
    · rw [if_neg hn]
      have hn : mkp c n = -1 := by omega
      by_cases hc : c n = 59
      · rw [if_pos hc]
        refine ⟨by omega, by omega, fun h => absurd h (by omega), fun _ => ⟨by simpa using hc, fun j hj => h3 hn j (by omega)⟩⟩
      · rw [if_neg hc]
        refine ⟨by omega, by omega, fun _ j hj => ?_, fun h => absurd rfl h⟩
        rcases (show j < n ∨ j = n by omega) with q | q
        · exact h3 hn j q
        · subst q; exact hc
theorem mkp_eq {c : Nat → Int} {n m : Nat} (hm : m < n) (h1 : c m = 59) (h2 : ∀ j, j < m → c j ≠ 59) : mkp c n = m := by
  obtain ⟨a1, a2, a3, a4⟩ := mkp_b c n
  by_cases h : mkp c n = -1
  · exact absurd h1 (a3 h m hm)
  · obtain ⟨b1, b2⟩ := a4 h
    by_cases hlt : (m : Int) < mkp c n
    · exact absurd h1 (b2 m hlt)
    · by_cases hgt : mkp c n < m
      · exact absurd b1 (h2 _ (by omega))
      · omega
theorem enP_b (c : Nat → Int) : ∀ i, -1 ≤ enP c i ∧ enP c i < i ∧ (enP c i ≠ -1 → c (enP c i).toNat = 59 ∧ okP c (enP c i).toNat = true ∧ enP c (enP c i).toNat = -1)
  | 0 => ⟨by show (-1 : Int) ≤ -1; omega, by show (-1 : Int) < ((0 : Nat) : Int); omega, fun h => absurd rfl h⟩
  | i + 1 => by
    obtain ⟨h1, h2, h3⟩ := enP_b c i
    have e : enP c (i + 1) = if enP c i = -1 ∧ okP c i = true ∧ c i = 59 then (i : Int) else enP c i := rfl
    by_cases h : enP c i = -1 ∧ okP c i = true ∧ c i = 59
    · rw [e, if_pos h]
      exact ⟨by omega, by omega, fun _ => ⟨by simpa using h.2.2, by simpa using h.2.1, by simpa using h.1⟩⟩
    · rw [e, if_neg h]
      exact ⟨h1, by omega, h3⟩
theorem enP_s {c : Nat → Int} {i : Nat} (h : enP c i ≠ -1) : enP c (i + 1) = enP c i := by
  show (if _ then _ else _) = _
  rw [if_neg (fun q => h q.1)]
theorem enP_none {c : Nat → Int} : ∀ {i : Nat}, gpre c i → enP c i = -1 → ∀ j, j < i → c j ≠ 59 ∧ enP c j = -1
  | 0, _, _, j, hj => absurd hj (Nat.not_lt_zero j)
  | i + 1, hg, he, j, hj => by
    have h0 : enP c i = -1 := by
      by_cases h : enP c i = -1
      · exact h
      · rw [enP_s h] at he
        exact absurd he h
    rcases (show j < i ∨ j = i by omega) with q | q
    · exact enP_none (fun k hk => hg k (by omega)) h0 j q
    · subst q
      refine ⟨fun h59 => ?_, h0⟩
      have hgj := hg j (by omega)
      unfold gd at hgj
      rw [if_pos h0] at hgj
      unfold enP at he
      rw [if_pos ⟨h0, hgj, h59⟩] at he
      omega
theorem enP_mark {c : Nat → Int} {n i : Nat} (hi : i ≤ n) (hg : gpre c i) (he : enP c i ≠ -1) : mkp c n = enP c i := by
  obtain ⟨h1, h2, h3⟩ := enP_b c i
  obtain ⟨a1, a2, a3⟩ := h3 he
  have h := mkp_eq (c := c) (n := n) (m := (enP c i).toNat) (by omega) a1 (fun j hj => (enP_none (i := (enP c i).toNat) (fun k hk => hg k (by omega)) a3 j hj).1)
  omega
theorem enP_all {c : Nat → Int} {n : Nat} (hg : gpre c n) : mkp c n = enP c n := by
  by_cases he : enP c n = -1
  · rw [he]
    obtain ⟨a1, a2, a3, a4⟩ := mkp_b c n
    by_cases h : mkp c n = -1
    · exact h
    · exact absurd (a4 h).1 ((enP_none hg he _ (by omega)).1)
  · exact enP_mark (Nat.le_refl n) hg he
theorem flt_s (c : Nat → Int) : ∀ r i, i ≤ flt c r i ∧ flt c r i ≤ i + r ∧ (flt c r i = i + r ↔ ∀ j, i ≤ j → j < i + r → gd c j = true)
  | 0, i => ⟨Nat.le_refl i, Nat.le_refl i, ⟨fun _ j h1 h2 => absurd h2 (by omega), fun _ => rfl⟩⟩
  | r + 1, i => by
    obtain ⟨h1, h2, h3⟩ := flt_s c r (i + 1)
    unfold flt
    by_cases h : gd c i = true
    · rw [if_pos h]
      refine ⟨by omega, by omega, ?_⟩
      rw [show i + (r + 1) = i + 1 + r by omega, h3]
      constructor
      · intro q j ha hb
        rcases (show j = i ∨ i + 1 ≤ j by omega) with e | e
        · subst e; exact h
        · exact q j e hb
      · intro q j ha hb
        exact q j (by omega) hb
    · rw [if_neg h]
      refine ⟨Nat.le_refl i, by omega, ⟨fun q => by omega, fun q => absurd (q i (Nat.le_refl i) (by omega)) h⟩⟩
theorem oP_c {M : Mm_} (h : oP M) {i : Nat} (hi : (i : Int) < M.1 1 1) : 0 ≤ M.1 2 i ∧ M.1 2 i ≤ 126 := h.2 i (by have := h.1; omega)
theorem i2cN : ∀ n : Nat, n < 127 → ((zI n).toUInt32 % 65536).toInt32 = zI n := by decide +kernel
theorem i2cZ {z : Int} (h0 : 0 ≤ z) (h1 : z ≤ 126) : ((zI z).toUInt32 % 65536).toInt32 = zI z := by
  obtain ⟨n, rfl⟩ := Int.eq_ofNat_of_zero_le h0
  exact i2cN n (by omega)

set_option maxRecDepth 10000 in
set_option maxHeartbeats 1000000 in
theorem c_pageAdd (M : Mm_) {a : Int} (h0 : 0 ≤ M.1 1 1) (h1 : M.1 1 1 < 24) : Cn 0 kX1_add [.ref 1, .int (zI a)] M (pV (mU (mU M 2 (M.1 1 1).toNat a) 1 1 (M.1 1 1 + 1))) := by
  refine Cn.of rfl (Nat.le_of_ble_eq_true rfl) (fun G C E => ?_)
  show G 0 [.ref 1, .int (zI a)] [] M
  obtain ⟨k, hk⟩ := Int.eq_ofNat_of_zero_le h0
  refine r_aload_n C rfl dX1_add_0 ?_
  refine r_geti C dX1_add_1 fl_X1_15 ly_1 rfl ?_
  refine r_aload_n C rfl dX1_add_4 ?_
  refine r_getr C dX1_add_5 fl_X1_9 ly_1 rfl ?_
  refine r_alen C dX1_add_8 ly_2 ?_
  refine r_icmp_ge C (tgt := 32) dX1_add_9 rfl (by first | assumption | exact rgm (by omega) (by omega)) (by first | assumption | exact rgm (by omega) (by omega)) (fun h9 => absurd h9 (by omega)) (fun h9 => ?_)
  refine r_aload_n C rfl dX1_add_12 ?_
  refine r_getr C dX1_add_13 fl_X1_9 ly_1 rfl ?_
  refine r_aload_n C rfl dX1_add_16 ?_
  refine r_geti C dX1_add_17 fl_X1_15 ly_1 rfl ?_
  refine r_iload_n C rfl dX1_add_20 ?_
  refine r_iast C dX1_add_21 ly_2 hk (by omega) ?_
  refine r_aload_n C rfl dX1_add_22 ?_
  refine r_dup C rfl dX1_add_23 ?_
  refine r_geti C dX1_add_24 fl_X1_15 ly_1 rfl ?_
  refine r_iconst C dX1_add_27 ?_
  refine r_iadd C dX1_add_28 ?_
  refine r_put C dX1_add_29 fl_X1_15 rfl (Or.inl rfl) ly_1 rfl ?_
  exact r_vret E dX1_add_32 (by refine ⟨rfl, ?_⟩; simp [mU, hk])
set_option maxRecDepth 10000 in
set_option maxHeartbeats 1000000 in
theorem c_pageClear (M : Mm_) : Cn 0 kX1_clear [.ref 1] M (pZ (M.1 1 1) (mU M 1 1 0)) := by
  refine Cn.of rfl (Nat.le_of_ble_eq_true rfl) (fun G C E => ?_)
  show G 0 [.ref 1, .null] [] M
  refine r_aload_n C rfl dX1_clear_0 ?_
  refine r_geti C dX1_clear_1 fl_X1_15 ly_1 rfl ?_
  refine r_istore_n C dX1_clear_4 1 rfl (by decide) rfl ?_
  dsimp only [List.set, Nat.reduceAdd]
  refine r_aload_n C rfl dX1_clear_5 ?_
  refine r_iconst C dX1_clear_6 ?_
  refine r_put C dX1_clear_7 fl_X1_15 rfl (Or.inl rfl) ly_1 rfl ?_
  refine r_iload_n C rfl dX1_clear_10 ?_
  exact r_iret E dX1_clear_11 ⟨rfl, rfl⟩
set_option maxRecDepth 10000 in
set_option maxHeartbeats 1000000 in
theorem c_codeAt (M : Mm_) {z : Int} {i : Nat} (hz : z = i) (hi : (i : Int) < M.1 1 1) (hp : oP M) : Cn 0 kX1_codeAt [.ref 1, .int (zI z)] M (pZ (M.1 2 i) M) := by
  refine Cn.of rfl (Nat.le_of_ble_eq_true rfl) (fun G C E => ?_)
  show G 0 [.ref 1, .int (zI z)] [] M
  have hp1 := hp.1
  refine r_iload_n C rfl dX1_codeAt_0 ?_
  refine r_if_lt C (tgt := 21) dX1_codeAt_1 rfl (by first | assumption | exact rgm (by omega) (by omega)) (fun h1 => absurd h1 (by omega)) (fun h1 => ?_)
  refine r_iload_n C rfl dX1_codeAt_4 ?_
  refine r_aload_n C rfl dX1_codeAt_5 ?_
  refine r_geti C dX1_codeAt_6 fl_X1_15 ly_1 rfl ?_
  refine r_icmp_ge C (tgt := 21) dX1_codeAt_9 rfl (by first | assumption | exact rgm (by omega) (by omega)) (by first | assumption | exact rgm (by omega) (by omega)) (fun h9 => absurd h9 (by omega)) (fun h9 => ?_)
  refine r_aload_n C rfl dX1_codeAt_12 ?_
  refine r_getr C dX1_codeAt_13 fl_X1_9 ly_1 rfl ?_
  refine r_iload_n C rfl dX1_codeAt_16 ?_
  refine r_iald C dX1_codeAt_17 ly_2 hz (by omega) ?_
  refine r_goto C (tgt := 22) dX1_codeAt_18 rfl ?_
  exact r_iret E dX1_codeAt_22 (pZ_of rfl)
set_option maxRecDepth 10000 in
set_option maxHeartbeats 1000000 in
theorem c_digitAt (M : Mm_) {z : Int} {i : Nat} (hz : z = i) (hi : (i : Int) < M.1 1 1) (hp : oP M) : Cn 1 kX1_digitAt [.ref 1, .int (zI z)] M (pZ (M.1 2 i - 48) M) := by
  refine Cn.of rfl (Nat.le_of_ble_eq_true rfl) (fun G C E => ?_)
  show G 0 [.ref 1, .int (zI z)] [] M
  refine r_aload_n C rfl dX1_digitAt_0 ?_
  refine r_iload_n C rfl dX1_digitAt_1 ?_
  refine r_cVz C dX1_digitAt_2 vw_X1_19 (c_codeAt M hz hi hp) (by decide) rfl ly_1 rfl rfl (Nat.le_of_ble_eq_true rfl) ?_
  refine r_bipush C rfl dX1_digitAt_5 ?_
  refine r_isub C dX1_digitAt_7 ?_
  exact r_iret E dX1_digitAt_8 (pZ_of rfl)
set_option maxRecDepth 10000 in
set_option maxHeartbeats 1000000 in
theorem c_isDigit (M : Mm_) {z a b : Int} {i : Nat} (hz : z = i) (hi : (i : Int) < M.1 1 1) (hp : oP M) (ha : rg a) (hb : rg b) : Cn 2 kX1_isDigit [.ref 1, .int (zI z), .int (zI a), .int (zI b)] M (pB (a + 48 ≤ M.1 2 i ∧ M.1 2 i ≤ b + 48) M) := by
  refine Cn.of rfl (Nat.le_of_ble_eq_true rfl) (fun G C E => ?_)
  show G 0 [.ref 1, .int (zI z), .int (zI a), .int (zI b), .null] [] M
  have hc := oP_c hp hi
  refine r_aload_n C rfl dX1_isDigit_0 ?_
  refine r_iload_n C rfl dX1_isDigit_1 ?_
  refine r_cVz C dX1_isDigit_2 vw_X1_52 (c_digitAt M hz hi hp) (by decide) rfl ly_1 rfl rfl (Nat.le_of_ble_eq_true rfl) ?_
  refine r_istore C dX1_isDigit_5 4 rfl (by decide) rfl ?_
  dsimp only [List.set, Nat.reduceAdd]
  refine r_iload C rfl dX1_isDigit_7 ?_
  refine r_iload_n C rfl dX1_isDigit_9 ?_
  refine r_icmp_lt C (tgt := 23) dX1_isDigit_10 rfl (by first | assumption | exact rgm (by omega) (by omega)) (by first | assumption | exact rgm (by omega) (by omega)) (fun h10 => ?_) (fun h10 => ?_)
  · refine r_iconst C dX1_isDigit_23 ?_
    exact r_zret E dX1_isDigit_24 (by decide) (pB_f (by omega))
  · refine r_iload C rfl dX1_isDigit_13 ?_
    refine r_iload_n C rfl dX1_isDigit_15 ?_
    refine r_icmp_gt C (tgt := 23) dX1_isDigit_16 rfl (by first | assumption | exact rgm (by omega) (by omega)) (by first | assumption | exact rgm (by omega) (by omega)) (fun h16 => ?_) (fun h16 => ?_)
    · refine r_iconst C dX1_isDigit_23 ?_
      exact r_zret E dX1_isDigit_24 (by decide) (pB_f (by omega))
    · refine r_iconst C dX1_isDigit_19 ?_
      refine r_goto C (tgt := 24) dX1_isDigit_20 rfl ?_
      exact r_zret E dX1_isDigit_24 (by decide) (pB_t (by omega))
set_option maxRecDepth 10000 in
set_option maxHeartbeats 1000000 in
theorem c_fitsPails (M : Mm_) {z q : Int} {i : Nat} (hz : z = i) (hi : (i : Int) < M.1 1 1) (hp : oP M) (hq : -1 ≤ q ∧ q < 24) : Cn 3 kX1_fitsPails [.ref 1, .int (zI z), .int (zI q)] M (pB ((i : Int) - q < 7 ∧ 49 ≤ M.1 2 i ∧ M.1 2 i ≤ 57) M) := by
  refine Cn.of rfl (Nat.le_of_ble_eq_true rfl) (fun G C E => ?_)
  show G 0 [.ref 1, .int (zI z), .int (zI q)] [] M
  have hp1 := hp.1
  refine r_iload_n C rfl dX1_fitsPails_0 ?_
  refine r_iload_n C rfl dX1_fitsPails_1 ?_
  refine r_isub C dX1_fitsPails_2 ?_
  refine r_bipush C rfl dX1_fitsPails_3 ?_
  refine r_icmp_gt C (tgt := 23) dX1_fitsPails_5 rfl (by first | assumption | exact rgm (by omega) (by omega)) (by first | assumption | exact rgm (by omega) (by omega)) (fun h5 => ?_) (fun h5 => ?_)
  · refine r_iconst C dX1_fitsPails_23 ?_
    exact r_zret E dX1_fitsPails_24 (by decide) (pB_f (by omega))
  · refine r_aload_n C rfl dX1_fitsPails_8 ?_
    refine r_iload_n C rfl dX1_fitsPails_9 ?_
    refine r_iconst C dX1_fitsPails_10 ?_
    refine r_bipush C rfl dX1_fitsPails_11 ?_
    refine r_cVb C dX1_fitsPails_13 vw_X1_45 (c_isDigit M hz hi hp (rgm (by decide) (by decide)) (rgm (by decide) (by decide))) (by decide) rfl ly_1 rfl rfl (Nat.le_of_ble_eq_true rfl) (fun h13 => ?_) (fun h13 => ?_)
    · refine r_if_eq C (tgt := 23) dX1_fitsPails_16 rfl (by first | assumption | exact rgm (by omega) (by omega)) (fun h16 => absurd h16 (by decide)) (fun h16 => ?_)
      refine r_iconst C dX1_fitsPails_19 ?_
      refine r_goto C (tgt := 24) dX1_fitsPails_20 rfl ?_
      exact r_zret E dX1_fitsPails_24 (by decide) (pB_t (by omega))
    · refine r_if_eq C (tgt := 23) dX1_fitsPails_16 rfl (by first | assumption | exact rgm (by omega) (by omega)) (fun h16 => ?_) (fun h16 => absurd h16 (by decide))
      refine r_iconst C dX1_fitsPails_23 ?_
      exact r_zret E dX1_fitsPails_24 (by decide) (pB_f (by omega))
set_option maxRecDepth 10000 in
set_option maxHeartbeats 1000000 in
theorem c_fitsBehind (M : Mm_) {a q : Int} (ra : rg a) (rq : rg q) : Cn 0 kX1_fitsBehindPeople [.ref 1, .int (zI a), .int (zI q)] M (pB ((a = 44 ∧ q < 4) ∨ (a = 59 ∧ 2 ≤ q)) M) := by
  refine Cn.of rfl (Nat.le_of_ble_eq_true rfl) (fun G C E => ?_)
  show G 0 [.ref 1, .int (zI a), .int (zI q)] [] M
  refine r_iload_n C rfl dX1_fitsBehindPeople_0 ?_
  refine r_bipush C rfl dX1_fitsBehindPeople_1 ?_
  refine r_icmp_ne C (tgt := 11) dX1_fitsBehindPeople_3 rfl (by first | assumption | exact rgm (by omega) (by omega)) (by first | assumption | exact rgm (by omega) (by omega)) (fun h3 => ?_) (fun h3 => ?_)
  · refine r_iload_n C rfl dX1_fitsBehindPeople_11 ?_
    refine r_bipush C rfl dX1_fitsBehindPeople_12 ?_
    refine r_icmp_ne C (tgt := 26) dX1_fitsBehindPeople_14 rfl (by first | assumption | exact rgm (by omega) (by omega)) (by first | assumption | exact rgm (by omega) (by omega)) (fun h14 => ?_) (fun h14 => ?_)
    · refine r_iconst C dX1_fitsBehindPeople_26 ?_
      exact r_zret E dX1_fitsBehindPeople_27 (by decide) (pB_f (by omega))
    · refine r_iload_n C rfl dX1_fitsBehindPeople_17 ?_
      refine r_iconst C dX1_fitsBehindPeople_18 ?_
      refine r_icmp_lt C (tgt := 26) dX1_fitsBehindPeople_19 rfl (by first | assumption | exact rgm (by omega) (by omega)) (by first | assumption | exact rgm (by omega) (by omega)) (fun h19 => ?_) (fun h19 => ?_)
      · refine r_iconst C dX1_fitsBehindPeople_26 ?_
        exact r_zret E dX1_fitsBehindPeople_27 (by decide) (pB_f (by omega))
      · refine r_iconst C dX1_fitsBehindPeople_22 ?_
        refine r_goto C (tgt := 27) dX1_fitsBehindPeople_23 rfl ?_
        exact r_zret E dX1_fitsBehindPeople_27 (by decide) (pB_t (by omega))
  · refine r_iload_n C rfl dX1_fitsBehindPeople_6 ?_
    refine r_iconst C dX1_fitsBehindPeople_7 ?_
    refine r_icmp_lt C (tgt := 22) dX1_fitsBehindPeople_8 rfl (by first | assumption | exact rgm (by omega) (by omega)) (by first | assumption | exact rgm (by omega) (by omega)) (fun h8 => ?_) (fun h8 => ?_)
    · refine r_iconst C dX1_fitsBehindPeople_22 ?_
      refine r_goto C (tgt := 27) dX1_fitsBehindPeople_23 rfl ?_
      exact r_zret E dX1_fitsBehindPeople_27 (by decide) (pB_t (by omega))
    · refine r_iload_n C rfl dX1_fitsBehindPeople_11 ?_
      refine r_bipush C rfl dX1_fitsBehindPeople_12 ?_
      refine r_icmp_ne C (tgt := 26) dX1_fitsBehindPeople_14 rfl (by first | assumption | exact rgm (by omega) (by omega)) (by first | assumption | exact rgm (by omega) (by omega)) (fun h14 => ?_) (fun h14 => ?_)
      · refine r_iconst C dX1_fitsBehindPeople_26 ?_
        exact r_zret E dX1_fitsBehindPeople_27 (by decide) (pB_f (by omega))
      · refine r_iload_n C rfl dX1_fitsBehindPeople_17 ?_
        refine r_iconst C dX1_fitsBehindPeople_18 ?_
        refine r_icmp_lt C (tgt := 26) dX1_fitsBehindPeople_19 rfl (by first | assumption | exact rgm (by omega) (by omega)) (by first | assumption | exact rgm (by omega) (by omega)) (fun h19 => ?_) (fun h19 => ?_)
        · refine r_iconst C dX1_fitsBehindPeople_26 ?_
          exact r_zret E dX1_fitsBehindPeople_27 (by decide) (pB_f (by omega))
        · refine r_iconst C dX1_fitsBehindPeople_22 ?_
          refine r_goto C (tgt := 27) dX1_fitsBehindPeople_23 rfl ?_
          exact r_zret E dX1_fitsBehindPeople_27 (by decide) (pB_t (by omega))
set_option maxRecDepth 10000 in
set_option maxHeartbeats 1000000 in
theorem c_fitsPeople (M : Mm_) {z : Int} {i : Nat} (hz : z = i) (hi : (i : Int) < M.1 1 1) (hp : oP M) : Cn 4 kX1_fitsPeople [.ref 1, .int (zI z)] M (pB (okP (M.1 2) i = true) M) := by
  refine Cn.of rfl (Nat.le_of_ble_eq_true rfl) (fun G C E => ?_)
  show G 0 [.ref 1, .int (zI z)] [] M
  have hc := oP_c hp hi
  have hp1 := hp.1
  have hix := ixF_b (M.1 2 i)
  refine r_iload_n C rfl dX1_fitsPeople_0 ?_
  refine r_iconst C dX1_fitsPeople_1 ?_
  refine r_irem C (by omega) (by omega) (by first | assumption | exact rgm (by omega) (by omega)) (by first | assumption | exact rgm (by omega) (by omega)) dX1_fitsPeople_2 ?_
  by_cases hout : z % 4 < 0 ∨ 2 < z % 4
  · refine r_tout C (tgt := 65) dX1_fitsPeople_3 (by first | assumption | exact rgm (by omega) (by omega)) hout rfl ?_
    refine r_aload_n C rfl dX1_fitsPeople_65 ?_
    refine r_aload_n C rfl dX1_fitsPeople_66 ?_
    refine r_iload_n C rfl dX1_fitsPeople_67 ?_
    refine r_cVz C dX1_fitsPeople_68 vw_X1_19 (c_codeAt M hz hi hp) (by decide) rfl ly_1 rfl rfl (Nat.le_of_ble_eq_true rfl) ?_
    refine r_iload_n C rfl dX1_fitsPeople_71 ?_
    refine r_iconst C dX1_fitsPeople_72 ?_
    refine r_idiv C (by omega) (by omega) (by first | assumption | exact rgm (by omega) (by omega)) (by first | assumption | exact rgm (by omega) (by omega)) dX1_fitsPeople_73 ?_
    refine r_iconst C dX1_fitsPeople_74 ?_
    refine r_iadd C dX1_fitsPeople_75 ?_
    refine r_cVb C dX1_fitsPeople_76 vw_X1_49 (c_fitsBehind M (rgm (by omega) (by omega)) (rgm (by omega) (by omega))) (by decide) rfl ly_1 rfl rfl (Nat.le_of_ble_eq_true rfl) (fun h76 => ?_) (fun h76 => ?_)
    · exact r_zret E dX1_fitsPeople_79 (by decide) (pB_t (by unfold okP; rw [if_neg (by omega), if_neg (by omega), if_neg (by omega)]; simp only [decide_eq_true_eq]; omega))
    · exact r_zret E dX1_fitsPeople_79 (by decide) (pB_f (by unfold okP; rw [if_neg (by omega), if_neg (by omega), if_neg (by omega)]; simp only [decide_eq_true_eq]; omega))
  · rcases (show z % 4 = 0 ∨ z % 4 = 1 ∨ z % 4 = 2 by omega) with hsw | hsw | hsw
    · have hsw2 := hsw
      refine r_tin C (tgt := 28) dX1_fitsPeople_3 (by first | assumption | exact rgm (by omega) (by omega)) (by omega) (by omega) (off := 25) (by rw [hsw]; rfl) rfl ?_
      refine r_ldcP C dX1_fitsPeople_28 rfl ?_
      refine r_aload_n C rfl dX1_fitsPeople_30 ?_
      refine r_iload_n C rfl dX1_fitsPeople_31 ?_
      refine r_cVz C dX1_fitsPeople_32 vw_X1_19 (c_codeAt M hz hi hp) (by decide) rfl ly_1 rfl rfl (Nat.le_of_ble_eq_true rfl) ?_
      refine r_i2c C (i2cZ hc.1 hc.2) dX1_fitsPeople_35 ?_
      refine r_callX C dX1_fitsPeople_36 vw_X1_40 (c_indexOf M (rgm (by omega) (by omega))) (by decide) rfl rfl rfl (Nat.le_of_ble_eq_true rfl) ?_
      refine r_if_lt C (tgt := 46) dX1_fitsPeople_39 rfl (rgm (by omega) (by omega)) (fun h39 => ?_) (fun h39 => ?_)
      · refine r_iconst C dX1_fitsPeople_46 ?_
        exact r_zret E dX1_fitsPeople_47 (by decide) (pB_f (by unfold okP; rw [if_pos (by omega)]; simp only [decide_eq_true_eq]; omega))
      · refine r_iconst C dX1_fitsPeople_42 ?_
        refine r_goto C (tgt := 47) dX1_fitsPeople_43 rfl ?_
        exact r_zret E dX1_fitsPeople_47 (by decide) (pB_t (by unfold okP; rw [if_pos (by omega)]; simp only [decide_eq_true_eq]; omega))
    · have hsw2 := hsw
      refine r_tin C (tgt := 48) dX1_fitsPeople_3 (by first | assumption | exact rgm (by omega) (by omega)) (by omega) (by omega) (off := 45) (by rw [hsw]; rfl) rfl ?_
      refine r_aload_n C rfl dX1_fitsPeople_48 ?_
      refine r_iload_n C rfl dX1_fitsPeople_49 ?_
      refine r_iconst C dX1_fitsPeople_50 ?_
      refine r_bipush C rfl dX1_fitsPeople_51 ?_
      refine r_cVb C dX1_fitsPeople_53 vw_X1_45 (c_isDigit M hz hi hp (rgm (by decide) (by decide)) (rgm (by decide) (by decide))) (by decide) rfl ly_1 rfl rfl (Nat.le_of_ble_eq_true rfl) (fun h53 => ?_) (fun h53 => ?_)
      · exact r_zret E dX1_fitsPeople_56 (by decide) (pB_t (by unfold okP; rw [if_neg (by omega), if_pos (by omega)]; simp only [decide_eq_true_eq]; omega))
      · exact r_zret E dX1_fitsPeople_56 (by decide) (pB_f (by unfold okP; rw [if_neg (by omega), if_pos (by omega)]; simp only [decide_eq_true_eq]; omega))
    · have hsw2 := hsw
      refine r_tin C (tgt := 57) dX1_fitsPeople_3 (by first | assumption | exact rgm (by omega) (by omega)) (by omega) (by omega) (off := 54) (by rw [hsw]; rfl) rfl ?_
      refine r_aload_n C rfl dX1_fitsPeople_57 ?_
      refine r_iload_n C rfl dX1_fitsPeople_58 ?_
      refine r_iconst C dX1_fitsPeople_59 ?_
      refine r_iconst C dX1_fitsPeople_60 ?_
      refine r_cVb C dX1_fitsPeople_61 vw_X1_45 (c_isDigit M hz hi hp (rgm (by decide) (by decide)) (rgm (by decide) (by decide))) (by decide) rfl ly_1 rfl rfl (Nat.le_of_ble_eq_true rfl) (fun h61 => ?_) (fun h61 => ?_)
      · exact r_zret E dX1_fitsPeople_64 (by decide) (pB_t (by unfold okP; rw [if_neg (by omega), if_neg (by omega), if_pos (by omega)]; simp only [decide_eq_true_eq]; omega))
      · exact r_zret E dX1_fitsPeople_64 (by decide) (pB_f (by unfold okP; rw [if_neg (by omega), if_neg (by omega), if_pos (by omega)]; simp only [decide_eq_true_eq]; omega))
set_option maxRecDepth 10000 in
set_option maxHeartbeats 1000000 in
theorem c_markPlace (M : Mm_) (hp : oP M) : Cn 0 kX1_markPlace [.ref 1] M (pZ (mkp (M.1 2) (M.1 1 1).toNat) M) := by
  have hp1 := hp.1
  obtain ⟨n, en⟩ := Int.eq_ofNat_of_zero_le hp1.1
  have en2 : (M.1 1 1).toNat = n := by omega
  rw [en2]
  refine Cn.of rfl (Nat.le_of_ble_eq_true rfl) (fun G C E => ?_)
  show G 0 [.ref 1, .null] [] M
  have lp : ∀ i : Nat, i ≤ n → ∀ z : Int, z = i → (∀ j, j < i → M.1 2 j ≠ 59) → G 2 [.ref 1, .int (zI z)] [] M := by
    refine lpN n ?_ ?_
    · intro z hz hall
      refine r_iload_n C rfl dX1_markPlace_2 ?_
      refine r_aload_n C rfl dX1_markPlace_3 ?_
      refine r_geti C dX1_markPlace_4 fl_X1_15 ly_1 rfl ?_
      refine r_icmp_ge C (tgt := 29) dX1_markPlace_7 rfl (by first | assumption | exact rgm (by omega) (by omega)) (by first | assumption | exact rgm (by omega) (by omega)) (fun h7 => ?_) (fun h7 => absurd h7 (by omega))
      refine r_iconst C dX1_markPlace_29 ?_
      exact r_iret E dX1_markPlace_30 (pZ_of (by obtain ⟨a1, a2, a3, a4⟩ := mkp_b (M.1 2) n; by_cases h : mkp (M.1 2) n = -1; omega; exact absurd (a4 h).1 (hall _ (by omega))))
    · intro i hi ih z hz hall
      have hc := oP_c hp (i := i) (by omega)
      refine r_iload_n C rfl dX1_markPlace_2 ?_
      refine r_aload_n C rfl dX1_markPlace_3 ?_
      refine r_geti C dX1_markPlace_4 fl_X1_15 ly_1 rfl ?_
      refine r_icmp_ge C (tgt := 29) dX1_markPlace_7 rfl (by first | assumption | exact rgm (by omega) (by omega)) (by first | assumption | exact rgm (by omega) (by omega)) (fun h7 => absurd h7 (by omega)) (fun h7 => ?_)
      refine r_aload_n C rfl dX1_markPlace_10 ?_
      refine r_getr C dX1_markPlace_11 fl_X1_9 ly_1 rfl ?_
      refine r_iload_n C rfl dX1_markPlace_14 ?_
      refine r_iald C dX1_markPlace_15 ly_2 hz (by omega) ?_
      refine r_bipush C rfl dX1_markPlace_16 ?_
      refine r_icmp_ne C (tgt := 23) dX1_markPlace_18 rfl (by first | assumption | exact rgm (by omega) (by omega)) (by first | assumption | exact rgm (by omega) (by omega)) (fun h18 => ?_) (fun h18 => ?_)
      · refine r_iinc C dX1_markPlace_23 rfl (by decide) rfl ?_
        dsimp only [List.set, Nat.reduceAdd]
        refine r_goto C (tgt := 2) dX1_markPlace_26 rfl ?_
        exact ih _ (by omega) (fun j hj => by rcases (show j < i ∨ j = i by omega) with q | q; exact hall j q; subst q; exact h18)
      · refine r_iload_n C rfl dX1_markPlace_21 ?_
        exact r_iret E dX1_markPlace_22 (pZ_of (by rw [mkp_eq hi h18 hall]; exact hz))
  refine r_iconst C dX1_markPlace_0 ?_
  refine r_istore_n C dX1_markPlace_1 1 rfl (by decide) rfl ?_
  dsimp only [List.set, Nat.reduceAdd]
  exact lp 0 (Nat.zero_le _) _ rfl (fun j hj => absurd hj (Nat.not_lt_zero j))
set_option maxRecDepth 10000 in
set_option maxHeartbeats 1000000 in
theorem c_firstFault (M : Mm_) (hp : oP M) : Cn 5 kX1_firstFault [.ref 1] M (pZ (flt (M.1 2) (M.1 1 1).toNat 0) M) := by
  have hp1 := hp.1
  obtain ⟨n, en⟩ := Int.eq_ofNat_of_zero_le hp1.1
  have en2 : (M.1 1 1).toNat = n := by omega
  have hmk0 := mkp_b (M.1 2) n
  rw [en2]
  refine Cn.of rfl (Nat.le_of_ble_eq_true rfl) (fun G C E => ?_)
  show G 0 [.ref 1, .null, .null, .null] [] M
  have lp : ∀ i : Nat, i ≤ n → ∀ ap z : Int, ((enP (M.1 2) i = -1 ∧ ap = 0) ∨ (enP (M.1 2) i ≠ -1 ∧ ap = 1)) → z = i → flt (M.1 2) (n - i) i = flt (M.1 2) n 0 → gpre (M.1 2) i → G 9 [.ref 1, .int (zI ap), .int (zI (mkp (M.1 2) n)), .int (zI z)] [] M := by
    refine lpN n ?_ ?_
    · intro ap z hap hz hres hg
      rw [Nat.sub_self] at hres
      have hres : n = flt (M.1 2) n 0 := hres
      refine r_iload_n C rfl dX1_firstFault_9 ?_
      refine r_aload_n C rfl dX1_firstFault_10 ?_
      refine r_geti C dX1_firstFault_11 fl_X1_15 ly_1 rfl ?_
      refine r_icmp_ge C (tgt := 64) dX1_firstFault_14 rfl (by first | assumption | exact rgm (by omega) (by omega)) (by first | assumption | exact rgm (by omega) (by omega)) (fun h14 => ?_) (fun h14 => absurd h14 (by omega))
      refine r_aload_n C rfl dX1_firstFault_64 ?_
      refine r_geti C dX1_firstFault_65 fl_X1_15 ly_1 rfl ?_
      exact r_iret E dX1_firstFault_68 (pZ_of (by rw [← hres]; exact en))
    · intro i hi ih ap z hap hz hres hg
      have hfl : flt (M.1 2) (n - i) i = if gd (M.1 2) i = true then flt (M.1 2) (n - (i + 1)) (i + 1) else i := by
        rw [show n - i = (n - (i + 1)) + 1 by omega]
        rfl
      have hc := oP_c hp (i := i) (by omega)
      have heb := enP_b (M.1 2) i
      rcases hap with ⟨he, rfl⟩ | ⟨he, rfl⟩
      · have mkq : (enP (M.1 2) i = -1 ∧ okP (M.1 2) i = true ∧ M.1 2 i = 59) → mkp (M.1 2) n = i := fun q => mkp_eq hi q.2.2 (fun j hj => (enP_none hg he j hj).1)
        refine r_iload_n C rfl dX1_firstFault_9 ?_
        refine r_aload_n C rfl dX1_firstFault_10 ?_
        refine r_geti C dX1_firstFault_11 fl_X1_15 ly_1 rfl ?_
        refine r_icmp_ge C (tgt := 64) dX1_firstFault_14 rfl (by first | assumption | exact rgm (by omega) (by omega)) (by first | assumption | exact rgm (by omega) (by omega)) (fun h14 => absurd h14 (by omega)) (fun h14 => ?_)
        refine r_iload_n C rfl dX1_firstFault_17 ?_
        refine r_if_eq C (tgt := 33) dX1_firstFault_18 rfl (by first | assumption | exact rgm (by omega) (by omega)) (fun h18 => ?_) (fun h18 => absurd h18 (by omega))
        refine r_aload_n C rfl dX1_firstFault_33 ?_
        refine r_iload_n C rfl dX1_firstFault_34 ?_
        refine r_cVb C dX1_firstFault_35 vw_X1_31 (c_fitsPeople M hz (by omega) hp) (by decide) rfl ly_1 rfl rfl (Nat.le_of_ble_eq_true rfl) (fun h35 => ?_) (fun h35 => ?_)
        · refine r_if_ne C (tgt := 43) dX1_firstFault_38 rfl (by first | assumption | exact rgm (by omega) (by omega)) (fun h38 => ?_) (fun h38 => absurd h38 (by decide))
          have hgd : gd (M.1 2) i = true := by unfold gd; rw [if_pos he]; exact h35
          refine r_iload_n C rfl dX1_firstFault_43 ?_
          refine r_if_ne C (tgt := 52) dX1_firstFault_44 rfl (by first | assumption | exact rgm (by omega) (by omega)) (fun h44 => absurd h44 (by omega)) (fun h44 => ?_)
          refine r_iload_n C rfl dX1_firstFault_47 ?_
          refine r_iload_n C rfl dX1_firstFault_48 ?_
          refine r_icmp_ne C (tgt := 56) dX1_firstFault_49 rfl (by first | assumption | exact rgm (by omega) (by omega)) (by first | assumption | exact rgm (by omega) (by omega)) (fun h49 => ?_) (fun h49 => ?_)
          · refine r_iconst C dX1_firstFault_56 ?_
            refine r_istore_n C dX1_firstFault_57 1 rfl (by decide) rfl ?_
            dsimp only [List.set, Nat.reduceAdd]
            refine r_iinc C dX1_firstFault_58 rfl (by decide) rfl ?_
            dsimp only [List.set, Nat.reduceAdd]
            refine r_goto C (tgt := 9) dX1_firstFault_61 rfl ?_
            exact ih _ _ (Or.inl ⟨by show (if _ then _ else _) = (-1 : Int); rw [if_neg (by intro q; exact h49 (by rw [hz]; exact (mkq q).symm))]; exact he, rfl⟩) (by omega) (by rw [← hres, hfl, if_pos hgd]) (fun j hj => by rcases (show j < i ∨ j = i by omega) with q | q; exact hg j q; subst q; exact hgd)
          · refine r_iconst C dX1_firstFault_52 ?_
            refine r_goto C (tgt := 57) dX1_firstFault_53 rfl ?_
            refine r_istore_n C dX1_firstFault_57 1 rfl (by decide) rfl ?_
            dsimp only [List.set, Nat.reduceAdd]
            refine r_iinc C dX1_firstFault_58 rfl (by decide) rfl ?_
            dsimp only [List.set, Nat.reduceAdd]
            refine r_goto C (tgt := 9) dX1_firstFault_61 rfl ?_
            exact ih _ _ (Or.inr ⟨by show (if _ then _ else _) ≠ (-1 : Int); rw [if_pos ⟨he, h35, by have := (hmk0.2.2.2 (by omega)).1; rw [show (mkp (M.1 2) n).toNat = i by omega] at this; exact this⟩]; omega, rfl⟩) (by omega) (by rw [← hres, hfl, if_pos hgd]) (fun j hj => by rcases (show j < i ∨ j = i by omega) with q | q; exact hg j q; subst q; exact hgd)
        · refine r_if_ne C (tgt := 43) dX1_firstFault_38 rfl (by first | assumption | exact rgm (by omega) (by omega)) (fun h38 => absurd h38 (by decide)) (fun h38 => ?_)
          refine r_iload_n C rfl dX1_firstFault_41 ?_
          exact r_iret E dX1_firstFault_42 (pZ_of (by rw [← hres, hfl, if_neg (by unfold gd; rw [if_pos he]; exact h35)]; exact hz))
      · have hmk := enP_mark (n := n) (by omega) hg he
        rw [hmk]
        rw [hmk] at ih
        refine r_iload_n C rfl dX1_firstFault_9 ?_
        refine r_aload_n C rfl dX1_firstFault_10 ?_
        refine r_geti C dX1_firstFault_11 fl_X1_15 ly_1 rfl ?_
        refine r_icmp_ge C (tgt := 64) dX1_firstFault_14 rfl (by first | assumption | exact rgm (by omega) (by omega)) (by first | assumption | exact rgm (by omega) (by omega)) (fun h14 => absurd h14 (by omega)) (fun h14 => ?_)
        refine r_iload_n C rfl dX1_firstFault_17 ?_
        refine r_if_eq C (tgt := 33) dX1_firstFault_18 rfl (by first | assumption | exact rgm (by omega) (by omega)) (fun h18 => absurd h18 (by omega)) (fun h18 => ?_)
        refine r_aload_n C rfl dX1_firstFault_21 ?_
        refine r_iload_n C rfl dX1_firstFault_22 ?_
        refine r_iload_n C rfl dX1_firstFault_23 ?_
        refine r_cVb C dX1_firstFault_24 vw_X1_27 (c_fitsPails M hz (by omega) hp (by omega)) (by decide) rfl ly_1 rfl rfl (Nat.le_of_ble_eq_true rfl) (fun h24 => ?_) (fun h24 => ?_)
        · refine r_if_eq C (tgt := 41) dX1_firstFault_27 rfl (by first | assumption | exact rgm (by omega) (by omega)) (fun h27 => absurd h27 (by decide)) (fun h27 => ?_)
          refine r_goto C (tgt := 43) dX1_firstFault_30 rfl ?_
          have hgd : gd (M.1 2) i = true := by unfold gd; rw [if_neg he]; simp only [decide_eq_true_eq]; omega
          refine r_iload_n C rfl dX1_firstFault_43 ?_
          refine r_if_ne C (tgt := 52) dX1_firstFault_44 rfl (by first | assumption | exact rgm (by omega) (by omega)) (fun h44 => ?_) (fun h44 => absurd h44 (by omega))
          refine r_iconst C dX1_firstFault_52 ?_
          refine r_goto C (tgt := 57) dX1_firstFault_53 rfl ?_
          refine r_istore_n C dX1_firstFault_57 1 rfl (by decide) rfl ?_
          dsimp only [List.set, Nat.reduceAdd]
          refine r_iinc C dX1_firstFault_58 rfl (by decide) rfl ?_
          dsimp only [List.set, Nat.reduceAdd]
          refine r_goto C (tgt := 9) dX1_firstFault_61 rfl ?_
          exact ih _ _ (Or.inr ⟨by rw [enP_s he]; exact he, rfl⟩) (by omega) (by rw [← hres, hfl, if_pos hgd]) (fun j hj => by rcases (show j < i ∨ j = i by omega) with q | q; exact hg j q; subst q; exact hgd)
        · refine r_if_eq C (tgt := 41) dX1_firstFault_27 rfl (by first | assumption | exact rgm (by omega) (by omega)) (fun h27 => ?_) (fun h27 => absurd h27 (by decide))
          refine r_iload_n C rfl dX1_firstFault_41 ?_
          exact r_iret E dX1_firstFault_42 (pZ_of (by rw [← hres, hfl, if_neg (by unfold gd; rw [if_neg he]; simp only [decide_eq_true_eq]; omega)]; exact hz))
  refine r_iconst C dX1_firstFault_0 ?_
  refine r_istore_n C dX1_firstFault_1 1 rfl (by decide) rfl ?_
  dsimp only [List.set, Nat.reduceAdd]
  refine r_aload_n C rfl dX1_firstFault_2 ?_
  refine r_cVz C dX1_firstFault_3 vw_X1_23 (c_markPlace M hp) (by decide) rfl ly_1 rfl rfl (Nat.le_of_ble_eq_true rfl) ?_
  rw [en2]
  refine r_istore_n C dX1_firstFault_6 2 rfl (by decide) rfl ?_
  dsimp only [List.set, Nat.reduceAdd]
  refine r_iconst C dX1_firstFault_7 ?_
  refine r_istore_n C dX1_firstFault_8 3 rfl (by decide) rfl ?_
  dsimp only [List.set, Nat.reduceAdd]
  exact lp 0 (Nat.zero_le _) _ _ (Or.inl ⟨rfl, rfl⟩) rfl rfl (fun j hj => absurd hj (Nat.not_lt_zero j))

def isVl (c : Nat → Int) (n : Nat) : Prop := gpre c n ∧ enP c n ≠ -1 ∧ 3 ≤ (n : Int) - enP c n
theorem flt_g {c : Nat → Int} {n : Nat} : flt c n 0 = n ↔ gpre c n := by
  have h := (flt_s c n 0).2.2
  rw [Nat.zero_add] at h
  exact h.trans ⟨fun q j hj => q j (Nat.zero_le j) hj, fun q j _ hj => q j hj⟩

set_option maxRecDepth 10000 in
set_option maxHeartbeats 1000000 in
theorem c_isValley (M : Mm_) (hp : oP M) : Cn 6 kX1_isValley [.ref 1] M (pB (isVl (M.1 2) (M.1 1 1).toNat) M) := by
  have hp1 := hp.1
  obtain ⟨n, en⟩ := Int.eq_ofNat_of_zero_le hp1.1
  have en2 : (M.1 1 1).toNat = n := by omega
  have hmk0 := mkp_b (M.1 2) n
  have hfl := flt_s (M.1 2) n 0
  have hg := flt_g (c := M.1 2) (n := n)
  have hall : flt (M.1 2) n 0 = n → mkp (M.1 2) n = enP (M.1 2) n := fun h => enP_all (hg.mp h)
  rw [en2]
  refine Cn.of rfl (Nat.le_of_ble_eq_true rfl) (fun G C E => ?_)
  show G 0 [.ref 1, .null] [] M
  refine r_aload_n C rfl dX1_isValley_0 ?_
  refine r_cVz C dX1_isValley_1 vw_X1_23 (c_markPlace M hp) (by decide) rfl ly_1 rfl rfl (Nat.le_of_ble_eq_true rfl) ?_
  rw [en2]
  refine r_istore_n C dX1_isValley_4 1 rfl (by decide) rfl ?_
  dsimp only [List.set, Nat.reduceAdd]
  refine r_iload_n C rfl dX1_isValley_5 ?_
  refine r_iconst C dX1_isValley_6 ?_
  refine r_icmp_eq C (tgt := 37) dX1_isValley_7 rfl (by first | assumption | exact rgm (by omega) (by omega)) (by first | assumption | exact rgm (by omega) (by omega)) (fun h7 => ?_) (fun h7 => ?_)
  · refine r_iconst C dX1_isValley_37 ?_
    exact r_zret E dX1_isValley_38 (by decide) (pB_f (fun q => by have := enP_all q.1; have h2 := q.2.1; have h3 := q.2.2; omega))
  · refine r_aload_n C rfl dX1_isValley_10 ?_
    refine r_geti C dX1_isValley_11 fl_X1_15 ly_1 rfl ?_
    refine r_iload_n C rfl dX1_isValley_14 ?_
    refine r_isub C dX1_isValley_15 ?_
    refine r_iconst C dX1_isValley_16 ?_
    refine r_isub C dX1_isValley_17 ?_
    refine r_iconst C dX1_isValley_18 ?_
    refine r_icmp_lt C (tgt := 37) dX1_isValley_19 rfl (by first | assumption | exact rgm (by omega) (by omega)) (by first | assumption | exact rgm (by omega) (by omega)) (fun h19 => ?_) (fun h19 => ?_)
    · refine r_iconst C dX1_isValley_37 ?_
      exact r_zret E dX1_isValley_38 (by decide) (pB_f (fun q => by have := enP_all q.1; have h2 := q.2.1; have h3 := q.2.2; omega))
    · refine r_aload_n C rfl dX1_isValley_22 ?_
      refine r_cVz C dX1_isValley_23 vw_X1_35 (c_firstFault M hp) (by decide) rfl ly_1 rfl rfl (Nat.le_of_ble_eq_true rfl) ?_
      rw [en2]
      refine r_aload_n C rfl dX1_isValley_26 ?_
      refine r_geti C dX1_isValley_27 fl_X1_15 ly_1 rfl ?_
      refine r_icmp_ne C (tgt := 37) dX1_isValley_30 rfl (by first | assumption | exact rgm (by omega) (by omega)) (by first | assumption | exact rgm (by omega) (by omega)) (fun h30 => ?_) (fun h30 => ?_)
      · refine r_iconst C dX1_isValley_37 ?_
        exact r_zret E dX1_isValley_38 (by decide) (pB_f (fun q => by have := hg.mpr q.1; omega))
      · refine r_iconst C dX1_isValley_33 ?_
        refine r_goto C (tgt := 38) dX1_isValley_34 rfl ?_
        exact r_zret E dX1_isValley_38 (by decide) (pB_t ⟨hg.mp (by omega), by rw [← hall (by omega)]; omega, by rw [← hall (by omega)]; omega⟩)
