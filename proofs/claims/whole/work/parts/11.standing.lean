
def hd4 (bo : Nat → Int) (z : Int) : Int := sm (fun i => bt z i * bo i) 4
def fb4 (bo : Nat → Int) : Int := sb (fun i => decide (0 < bo i)) 4
def subB (bo : Nat → Int) (z : Int) : Bool := decide (∀ i : Nat, i < 4 → bt z i = 1 → 0 < bo i)
def cst (bo : Nat → Int) (z : Int) : Int := 1000 * ob z + hd4 bo z
def bw (bo : Nat → Int) (lack : Int) : Nat → Int
  | 0 => -1
  | n + 1 => if (subB bo n = true ∧ lack ≤ hd4 bo n) ∧ (bw bo lack n = -1 ∨ cst bo n < cst bo (bw bo lack n)) then n else bw bo lack n
theorem hd4_b {bo : Nat → Int} {z : Int} (h : ∀ i, i < 4 → 0 ≤ bo i ∧ bo i ≤ 99) : 0 ≤ hd4 bo z ∧ hd4 bo z ≤ 396 := by
  have := sm_le (f := fun i => bt z i * bo i) (c := 99) (n := 4) (fun i hi => by
    have h1 := bt_b z i
    have h2 := h i hi
    rcases (show bt z i = 0 ∨ bt z i = 1 by omega) with e | e <;> rw [e] <;> omega)
  exact this
theorem an_subN : ∀ (a b c d : Bool), ∀ n : Nat, n < 16 → ((an n (sb (fun i => [a, b, c, d].getD i false) 4) = 0 ↔ ∀ i : Nat, i < 4 → bt n i = 1 → [a, b, c, d].getD i false = true) ∧ (an n (sb (fun i => [a, b, c, d].getD i false) 4) = 0 → (n : Int) ≤ sb (fun i => [a, b, c, d].getD i false) 4)) := by decide +kernel
theorem an_sub (bo : Nat → Int) {n : Nat} (hn : n < 16) : (an n (fb4 bo) = 0 ↔ subB bo n = true) ∧ (an n (fb4 bo) = 0 → (n : Int) ≤ fb4 bo) := by
  have h := an_subN (decide (0 < bo 0)) (decide (0 < bo 1)) (decide (0 < bo 2)) (decide (0 < bo 3)) n hn
  have key : ∀ i, i < 4 → [decide (0 < bo 0), decide (0 < bo 1), decide (0 < bo 2), decide (0 < bo 3)].getD i false = decide (0 < bo i) := by
    intro i hi
    rcases (show i = 0 ∨ i = 1 ∨ i = 2 ∨ i = 3 by omega) with rfl | rfl | rfl | rfl <;> rfl
  have e : sb (fun i => [decide (0 < bo 0), decide (0 < bo 1), decide (0 < bo 2), decide (0 < bo 3)].getD i false) 4 = fb4 bo := sb_congr key
  rw [e] at h
  refine ⟨h.1.trans ?_, h.2⟩
  unfold subB
  rw [decide_eq_true_eq]
  constructor
  · intro q i hi hb
    have := q i hi hb
    rw [key i hi] at this
    exact of_decide_eq_true this
  · intro q i hi hb
    rw [key i hi]
    exact decide_eq_true (q i hi hb)
theorem fb4_b (bo : Nat → Int) : 0 ≤ fb4 bo ∧ fb4 bo < 16 := sbb _ 4
theorem ob_bN : ∀ n : Nat, n < 64 → 0 ≤ ob n ∧ ob n ≤ 6 := by decide +kernel
theorem ob_b {z : Int} (h0 : 0 ≤ z) (h1 : z < 64) : 0 ≤ ob z ∧ ob z ≤ 6 := by
  obtain ⟨n, rfl⟩ := Int.eq_ofNat_of_zero_le h0
  exact ob_bN n (by omega)
theorem bw_b (bo : Nat → Int) (lack : Int) : ∀ n, -1 ≤ bw bo lack n ∧ bw bo lack n < (n : Int) + 1
  | 0 => by show -1 ≤ (-1 : Int) ∧ (-1 : Int) < ((0 : Nat) : Int) + 1; decide
  | n + 1 => by
    have h := bw_b bo lack n
    unfold bw
    split <;> omega

set_option maxRecDepth 10000 in
set_option maxHeartbeats 1000000 in
theorem c_bitCount (M : Mm_) {z : Int} (h0 : 0 ≤ z) (h1 : z < 64) : Cn 0 kJ6_bitCount_0f7a4 [.int (zI z)] M (pZ (ob z) M) := by
  refine Cn.of rfl (Nat.le_of_ble_eq_true rfl) (fun G C E => ?_)
  show G 0 [.int (zI z)] [] M
  refine r_iload_n C rfl dJ6_bitCount_0f7a4_0 ?_
  refine r_iload_n C rfl dJ6_bitCount_0f7a4_1 ?_
  refine r_iconst C dJ6_bitCount_0f7a4_2 ?_
  refine r_iushr C rfl dJ6_bitCount_0f7a4_3 ?_
  refine r_ldcw C (z := 1431655765) dJ6_bitCount_0f7a4_4 kc_J6_265 rfl ?_
  refine r_iandR C dJ6_bitCount_0f7a4_7 ?_
  refine r_isubR C dJ6_bitCount_0f7a4_8 ?_
  refine r_istore_n C dJ6_bitCount_0f7a4_9 0 rfl (by decide) rfl ?_
  dsimp only [List.set, Nat.reduceAdd]
  refine r_iload_n C rfl dJ6_bitCount_0f7a4_10 ?_
  refine r_ldcw C (z := 858993459) dJ6_bitCount_0f7a4_11 kc_J6_266 rfl ?_
  refine r_iandR C dJ6_bitCount_0f7a4_14 ?_
  refine r_iload_n C rfl dJ6_bitCount_0f7a4_15 ?_
  refine r_iconst C dJ6_bitCount_0f7a4_16 ?_
  refine r_iushr C rfl dJ6_bitCount_0f7a4_17 ?_
  refine r_ldcw C (z := 858993459) dJ6_bitCount_0f7a4_18 kc_J6_266 rfl ?_
  refine r_iandR C dJ6_bitCount_0f7a4_21 ?_
  refine r_iaddR C dJ6_bitCount_0f7a4_22 ?_
  refine r_istore_n C dJ6_bitCount_0f7a4_23 0 rfl (by decide) rfl ?_
  dsimp only [List.set, Nat.reduceAdd]
  refine r_iload_n C rfl dJ6_bitCount_0f7a4_24 ?_
  refine r_iload_n C rfl dJ6_bitCount_0f7a4_25 ?_
  refine r_iconst C dJ6_bitCount_0f7a4_26 ?_
  refine r_iushr C rfl dJ6_bitCount_0f7a4_27 ?_
  refine r_iaddR C dJ6_bitCount_0f7a4_28 ?_
  refine r_ldcw C (z := 252645135) dJ6_bitCount_0f7a4_29 kc_J6_267 rfl ?_
  refine r_iandR C dJ6_bitCount_0f7a4_32 ?_
  refine r_istore_n C dJ6_bitCount_0f7a4_33 0 rfl (by decide) rfl ?_
  dsimp only [List.set, Nat.reduceAdd]
  refine r_iload_n C rfl dJ6_bitCount_0f7a4_34 ?_
  refine r_iload_n C rfl dJ6_bitCount_0f7a4_35 ?_
  refine r_bipush C rfl dJ6_bitCount_0f7a4_36 ?_
  refine r_iushr C rfl dJ6_bitCount_0f7a4_38 ?_
  refine r_iaddR C dJ6_bitCount_0f7a4_39 ?_
  refine r_istore_n C dJ6_bitCount_0f7a4_40 0 rfl (by decide) rfl ?_
  dsimp only [List.set, Nat.reduceAdd]
  refine r_iload_n C rfl dJ6_bitCount_0f7a4_41 ?_
  refine r_iload_n C rfl dJ6_bitCount_0f7a4_42 ?_
  refine r_bipush C rfl dJ6_bitCount_0f7a4_43 ?_
  refine r_iushr C rfl dJ6_bitCount_0f7a4_45 ?_
  refine r_iaddR C dJ6_bitCount_0f7a4_46 ?_
  refine r_istore_n C dJ6_bitCount_0f7a4_47 0 rfl (by decide) rfl ?_
  dsimp only [List.set, Nat.reduceAdd]
  refine r_iload_n C rfl dJ6_bitCount_0f7a4_48 ?_
  refine r_bipush C rfl dJ6_bitCount_0f7a4_49 ?_
  refine r_iandR C dJ6_bitCount_0f7a4_51 ?_
  refine r_iret E dJ6_bitCount_0f7a4_52 ?_
  exact ⟨congrArg (fun x => some (Value.int x)) (bcF_ok h0 h1).1, rfl⟩


def mF (M : Mm_) (a i : Nat) (v : Int) : Mm_ := (fun x y => if x = a ∧ y < i then v else M.1 x y, M.2)
theorem mF_s (M : Mm_) (a i : Nat) (v : Int) : mU (mF M a i v) a i v = mF M a (i + 1) v := by
  unfold mU mF
  congr 1
  funext x y
  by_cases hx : x = a
  · by_cases hy : y = i
    · simp [hx, hy]
    · by_cases h : y < i
      · simp [hx, hy, h, show y < i + 1 by omega]
      · simp [hx, hy, h, show ¬ y < i + 1 by omega]
  · simp [hx]
theorem mF_0 (M : Mm_) (a : Nat) (v : Int) : mF M a 0 v = M := by
  unfold mF
  simp
theorem mF_all {M : Mm_} {a n : Nat} {v : Int} (h : lnT a = n) : eqM (mF M a n v) (mR M a (fun _ => v)) := by
  refine ⟨fun x j hj => ?_, rfl⟩
  by_cases hx : x = a
  · subst hx
    rw [h] at hj
    simp [mR, mF, hj]
  · simp [mR, mF, hx]
theorem lnT_a {a n : Nat} {cs : List Nat} (h : lyT[a]? = some (0, n, cs)) : lnT a = n := by
  unfold lnT
  rw [show lyT.getD a (0, 0, []) = (0, n, cs) by simp [List.getD, h]]
  rfl

set_option maxRecDepth 10000 in
set_option maxHeartbeats 1000000 in
theorem c_fill (M : Mm_) {a n : Nat} {v : Int} {cs : List Nat} (ha : lyT[a]? = some (0, n, cs)) : Cn 0 kJ7_fill_53178 [.ref a, .int (zI v)] M (pV (mR M a (fun _ => v))) := by
  have hn := lyT_m ha
  refine Cn.of rfl (Nat.le_of_ble_eq_true rfl) (fun G C E => ?_)
  show G 0 [.ref a, .int (zI v), .null, .null] [] M
  have lp : ∀ i, i ≤ n → ∀ z : Int, z = i → G 5 [.ref a, .int (zI v), .int (zI z), .int (zI n)] [] (mF M a i v) := by
    refine lpN n ?_ ?_
    · intro z hz 
      refine r_iload_n C rfl dJ7_fill_53178_5 ?_
      refine r_iload_n C rfl dJ7_fill_53178_6 ?_
      refine r_icmp_ge C (tgt := 20) dJ7_fill_53178_7 rfl (by first | assumption | exact rgm (by omega) (by omega)) (by first | assumption | exact rgm (by omega) (by omega)) (fun h7 => ?_) (fun h7 => absurd h7 (by omega))
      refine r_ext C (mF_all (lnT_a ha)) ?_
      exact r_vret E dJ7_fill_53178_20 pV_of
    · intro i hi ih z hz 
      refine r_iload_n C rfl dJ7_fill_53178_5 ?_
      refine r_iload_n C rfl dJ7_fill_53178_6 ?_
      refine r_icmp_ge C (tgt := 20) dJ7_fill_53178_7 rfl (by first | assumption | exact rgm (by omega) (by omega)) (by first | assumption | exact rgm (by omega) (by omega)) (fun h7 => absurd h7 (by omega)) (fun h7 => ?_)
      refine r_aload_n C rfl dJ7_fill_53178_10 ?_
      refine r_iload_n C rfl dJ7_fill_53178_11 ?_
      refine r_iload_n C rfl dJ7_fill_53178_12 ?_
      refine r_iast C dJ7_fill_53178_13 ha hz (by omega) ?_
      rw [mF_s]
      refine r_iinc C dJ7_fill_53178_14 rfl (by decide) rfl ?_
      dsimp only [List.set, Nat.reduceAdd]
      refine r_goto C (tgt := 5) dJ7_fill_53178_17 rfl ?_
      exact ih _ (by omega)
  refine r_iconst C dJ7_fill_53178_0 ?_
  refine r_istore_n C dJ7_fill_53178_1 2 rfl (by decide) rfl ?_
  dsimp only [List.set, Nat.reduceAdd]
  refine r_aload_n C rfl dJ7_fill_53178_2 ?_
  refine r_alen C dJ7_fill_53178_3 ha ?_
  refine r_istore_n C dJ7_fill_53178_4 3 rfl (by decide) rfl ?_
  dsimp only [List.set, Nat.reduceAdd]
  have h0 := lp 0 (Nat.zero_le _) 0 rfl
  rw [mF_0] at h0
  exact h0
set_option maxRecDepth 10000 in
set_option maxHeartbeats 1000000 in
theorem c_fullBottles (M : Mm_) (hb : ∀ i, i < 4 → 0 ≤ M.1 12 i ∧ M.1 12 i ≤ 99) : Cn 0 kX3_fullBottles [.ref 8] M (pZ (fb4 (M.1 12)) M) := by
  refine Cn.of rfl (Nat.le_of_ble_eq_true rfl) (fun G C E => ?_)
  show G 0 [.ref 8, .null, .null] [] M
  have lp : ∀ i, i ≤ 4 → ∀ s z : Int, s = sb (fun i => decide (0 < M.1 12 i)) i → z = i → G 4 [.ref 8, .int (zI s), .int (zI z)] [] M := by
    refine lpN _ ?_ ?_
    · intro s z hs hz 
      refine r_iload_n C rfl dX3_fullBottles_4 ?_
      refine r_iconst C dX3_fullBottles_5 ?_
      refine r_icmp_ge C (tgt := 30) dX3_fullBottles_6 rfl (by first | assumption | exact rgm (by omega) (by omega)) (by first | assumption | exact rgm (by omega) (by omega)) (fun h6 => ?_) (fun h6 => absurd h6 (by omega))
      refine r_iload_n C rfl dX3_fullBottles_30 ?_
      exact r_iret E dX3_fullBottles_31 (pZ_of hs)
    · intro i hi ih s z hs hz 
      have hbi := hb i hi
      have hsb := sbb (fun i => decide (0 < M.1 12 i)) i
      refine r_iload_n C rfl dX3_fullBottles_4 ?_
      refine r_iconst C dX3_fullBottles_5 ?_
      refine r_icmp_ge C (tgt := 30) dX3_fullBottles_6 rfl (by first | assumption | exact rgm (by omega) (by omega)) (by first | assumption | exact rgm (by omega) (by omega)) (fun h6 => absurd h6 (by omega)) (fun h6 => ?_)
      refine r_aload_n C rfl dX3_fullBottles_9 ?_
      refine r_getr C dX3_fullBottles_10 fl_X3_21 ly_8 rfl ?_
      refine r_iload_n C rfl dX3_fullBottles_13 ?_
      refine r_iald C dX3_fullBottles_14 ly_12 hz (by omega) ?_
      refine r_if_le C (tgt := 24) dX3_fullBottles_15 rfl (by first | assumption | exact rgm (by omega) (by omega)) (fun h15 => ?_) (fun h15 => ?_)
      · refine r_iinc C dX3_fullBottles_24 rfl (by decide) rfl ?_
        dsimp only [List.set, Nat.reduceAdd]
        refine r_goto C (tgt := 4) dX3_fullBottles_27 rfl ?_
        exact ih _ _ (by rw [sb_s, if_neg (by simpa using h15)]; omega) (by omega)
      · refine r_iload_n C rfl dX3_fullBottles_18 ?_
        refine r_iconst C dX3_fullBottles_19 ?_
        refine r_iload_n C rfl dX3_fullBottles_20 ?_
        refine r_ishl C (v := 2 ^ i) (by rw [hz]; exact zb_shl (by omega)) dX3_fullBottles_21 ?_
        refine r_ior C (v := s + 2 ^ i) (zb_or (by omega) (by omega) (by omega)) dX3_fullBottles_22 ?_
        refine r_istore_n C dX3_fullBottles_23 1 rfl (by decide) rfl ?_
        dsimp only [List.set, Nat.reduceAdd]
        refine r_iinc C dX3_fullBottles_24 rfl (by decide) rfl ?_
        dsimp only [List.set, Nat.reduceAdd]
        refine r_goto C (tgt := 4) dX3_fullBottles_27 rfl ?_
        exact ih _ _ (by rw [sb_s, if_pos (by simpa using h15)]; omega) (by omega)
  refine r_iconst C dX3_fullBottles_0 ?_
  refine r_istore_n C dX3_fullBottles_1 1 rfl (by decide) rfl ?_
  dsimp only [List.set, Nat.reduceAdd]
  refine r_iconst C dX3_fullBottles_2 ?_
  refine r_istore_n C dX3_fullBottles_3 2 rfl (by decide) rfl ?_
  dsimp only [List.set, Nat.reduceAdd]
  exact lp 0 (by omega) _ _ rfl rfl
set_option maxRecDepth 10000 in
set_option maxHeartbeats 1000000 in
theorem c_heldIn (M : Mm_) {q : Int} (h0 : 0 ≤ q) (h1 : q < 64) (hb : ∀ i, i < 4 → 0 ≤ M.1 12 i ∧ M.1 12 i ≤ 99) : Cn 0 kX3_heldIn [.ref 8, .int (zI q)] M (pZ (hd4 (M.1 12) q) M) := by
  refine Cn.of rfl (Nat.le_of_ble_eq_true rfl) (fun G C E => ?_)
  show G 0 [.ref 8, .int (zI q), .null, .null] [] M
  have lp : ∀ i, i ≤ 4 → ∀ s z : Int, s = sm (fun i => bt q i * M.1 12 i) i → z = i → G 4 [.ref 8, .int (zI q), .int (zI s), .int (zI z)] [] M := by
    refine lpN _ ?_ ?_
    · intro s z hs hz 
      refine r_iload_n C rfl dX3_heldIn_4 ?_
      refine r_iconst C dX3_heldIn_5 ?_
      refine r_icmp_ge C (tgt := 32) dX3_heldIn_6 rfl (by first | assumption | exact rgm (by omega) (by omega)) (by first | assumption | exact rgm (by omega) (by omega)) (fun h6 => ?_) (fun h6 => absurd h6 (by omega))
      refine r_iload_n C rfl dX3_heldIn_32 ?_
      exact r_iret E dX3_heldIn_33 (pZ_of hs)
    · intro i hi ih s z hs hz 
      have hbi := hb i hi
      have hdv := dv_b i h0
      have hbt := bt_b q i
      have hbd : q / 2 ^ i % 2 = bt q i := rfl
      have hsm := sm_le (f := fun i => bt q i * M.1 12 i) (c := 99) (n := i) (fun j hj => by
        have h1 := bt_b q j
        have h2 := hb j (by omega)
        show 0 ≤ bt q j * M.1 12 j ∧ bt q j * M.1 12 j ≤ 99
        rcases (show bt q j = 0 ∨ bt q j = 1 by omega) with e | e <;> rw [e] <;> omega)
      refine r_iload_n C rfl dX3_heldIn_4 ?_
      refine r_iconst C dX3_heldIn_5 ?_
      refine r_icmp_ge C (tgt := 32) dX3_heldIn_6 rfl (by first | assumption | exact rgm (by omega) (by omega)) (by first | assumption | exact rgm (by omega) (by omega)) (fun h6 => absurd h6 (by omega)) (fun h6 => ?_)
      refine r_iload_n C rfl dX3_heldIn_9 ?_
      refine r_iload_n C rfl dX3_heldIn_10 ?_
      refine r_ishr C (v := q / 2 ^ i) (by rw [hz]; exact zb_shr h0 (by omega) (by omega)) dX3_heldIn_11 ?_
      refine r_iconst C dX3_heldIn_12 ?_
      refine r_iand C (v := q / 2 ^ i % 2) (zb_and1 (by omega) (by omega)) dX3_heldIn_13 ?_
      refine r_if_eq C (tgt := 26) dX3_heldIn_14 rfl (by first | assumption | exact rgm (by omega) (by omega)) (fun h14 => ?_) (fun h14 => ?_)
      · refine r_iinc C dX3_heldIn_26 rfl (by decide) rfl ?_
        dsimp only [List.set, Nat.reduceAdd]
        refine r_goto C (tgt := 4) dX3_heldIn_29 rfl ?_
        exact ih _ _ (by simp only [sm]; rw [show bt q i = 0 by omega]; omega) (by omega)
      · refine r_iload_n C rfl dX3_heldIn_17 ?_
        refine r_aload_n C rfl dX3_heldIn_18 ?_
        refine r_getr C dX3_heldIn_19 fl_X3_21 ly_8 rfl ?_
        refine r_iload_n C rfl dX3_heldIn_22 ?_
        refine r_iald C dX3_heldIn_23 ly_12 hz (by omega) ?_
        refine r_iadd C dX3_heldIn_24 ?_
        refine r_istore_n C dX3_heldIn_25 2 rfl (by decide) rfl ?_
        dsimp only [List.set, Nat.reduceAdd]
        refine r_iinc C dX3_heldIn_26 rfl (by decide) rfl ?_
        dsimp only [List.set, Nat.reduceAdd]
        refine r_goto C (tgt := 4) dX3_heldIn_29 rfl ?_
        exact ih _ _ (by simp only [sm]; rw [show bt q i = 1 by omega]; omega) (by omega)
  refine r_iconst C dX3_heldIn_0 ?_
  refine r_istore_n C dX3_heldIn_1 2 rfl (by decide) rfl ?_
  dsimp only [List.set, Nat.reduceAdd]
  refine r_iconst C dX3_heldIn_2 ?_
  refine r_istore_n C dX3_heldIn_3 3 rfl (by decide) rfl ?_
  dsimp only [List.set, Nat.reduceAdd]
  exact lp 0 (by omega) _ _ rfl rfl
set_option maxRecDepth 10000 in
set_option maxHeartbeats 1000000 in
theorem c_bottlesWorth (M : Mm_) {lack : Int} (hl : 0 < lack) (hl2 : rg lack) (hb : ∀ i, i < 4 → 0 ≤ M.1 12 i ∧ M.1 12 i ≤ 99) : Cn 1 kX3_bottlesWorth [.ref 8, .int (zI lack)] M (pZ (bw (M.1 12) lack ((fb4 (M.1 12)).toNat + 1)) M) := by
  refine Cn.of rfl (Nat.le_of_ble_eq_true rfl) (fun G C E => ?_)
  show G 0 [.ref 8, .int (zI lack), .null, .null, .null, .null, .null, .null] [] M
  have hF := fb4_b (M.1 12)
  have lp : ∀ i, i ≤ ((fb4 (M.1 12))).toNat + 1 → ∀ best bc z : Int, best = bw (M.1 12) lack i → z = i → (best = -1 ∨ bc = cst (M.1 12) best) → (0 ≤ bc ∧ bc ≤ 6396) → 1 ≤ i → ∀ v6 v7 : Value, G 13 [.ref 8, .int (zI lack), .int (zI (fb4 (M.1 12))), .int (zI best), .int (zI bc), .int (zI z), v6, v7] [] M := by
    refine lpN _ ?_ ?_
    · intro best bc z hbest0 hz hbc hbr h1i v6 v7
      have hwb := bw_b (M.1 12) lack (((fb4 (M.1 12))).toNat + 1)
      refine r_iload C rfl dX3_bottlesWorth_13 ?_
      refine r_iload_n C rfl dX3_bottlesWorth_15 ?_
      refine r_icmp_gt C (tgt := 81) dX3_bottlesWorth_16 rfl (by first | assumption | exact rgm (by omega) (by omega)) (by first | assumption | exact rgm (by omega) (by omega)) (fun h16 => ?_) (fun h16 => absurd h16 (by omega))
      refine r_iload_n C rfl dX3_bottlesWorth_81 ?_
      exact r_iret E dX3_bottlesWorth_82 (pZ_of hbest0)
    · intro i hi ih best bc z hbest0 hz hbc hbr h1i v6 v7
      have hwb := bw_b (M.1 12) lack i
      have hh := hd4_b (z := (i : Int)) hb
      have hbest : best = -1 ∨ (0 ≤ best ∧ best < 16) := by omega
      have hob := ob_b (z := (i : Int)) (by omega) (by omega)
      have hs := an_sub (M.1 12) (n := i) (by omega)
      have han := an_b (a := (i : Int)) (b := fb4 (M.1 12)) (by omega) (by omega) (by omega) (by omega)
      have hst : bw (M.1 12) lack (i + 1) = if (subB (M.1 12) i = true ∧ lack ≤ hd4 (M.1 12) i) ∧ (bw (M.1 12) lack i = -1 ∨ cst (M.1 12) i < cst (M.1 12) (bw (M.1 12) lack i)) then (i : Int) else bw (M.1 12) lack i := rfl
      have hce : cst (M.1 12) (i : Int) = 1000 * ob i + hd4 (M.1 12) i := rfl
      subst hz
      refine r_iload C rfl dX3_bottlesWorth_13 ?_
      refine r_iload_n C rfl dX3_bottlesWorth_15 ?_
      refine r_icmp_gt C (tgt := 81) dX3_bottlesWorth_16 rfl (by first | assumption | exact rgm (by omega) (by omega)) (by first | assumption | exact rgm (by omega) (by omega)) (fun h16 => absurd h16 (by omega)) (fun h16 => ?_)
      refine r_aload_n C rfl dX3_bottlesWorth_19 ?_
      refine r_iload C rfl dX3_bottlesWorth_20 ?_
      refine r_cVz C dX3_bottlesWorth_22 vw_X3_85 (c_heldIn M (by omega) (by omega) hb) (by decide) rfl ly_8 rfl rfl (Nat.le_of_ble_eq_true rfl) ?_
      refine r_istore C dX3_bottlesWorth_25 6 rfl (by decide) rfl ?_
      dsimp only [List.set, Nat.reduceAdd]
      refine r_sipush C rfl dX3_bottlesWorth_27 ?_
      refine r_iload C rfl dX3_bottlesWorth_30 ?_
      refine r_cSz C dX3_bottlesWorth_32 sw_X3_89 (c_bitCount M (by omega) (by omega)) (by decide) rfl rfl (Nat.le_of_ble_eq_true rfl) ?_
      refine r_imul C dX3_bottlesWorth_35 ?_
      refine r_iload C rfl dX3_bottlesWorth_36 ?_
      refine r_iadd C dX3_bottlesWorth_38 ?_
      refine r_istore C dX3_bottlesWorth_39 7 rfl (by decide) rfl ?_
      dsimp only [List.set, Nat.reduceAdd]
      refine r_iload C rfl dX3_bottlesWorth_41 ?_
      refine r_iload_n C rfl dX3_bottlesWorth_43 ?_
      refine r_iconst C dX3_bottlesWorth_44 ?_
      refine r_ixor C (v := -1 - fb4 (M.1 12)) (zb_not (by omega) (by omega)) dX3_bottlesWorth_45 ?_
      refine r_iand C (v := an i (fb4 (M.1 12))) (zb_an2 (by omega) (by omega) (by omega) (by omega)) dX3_bottlesWorth_46 ?_
      refine r_if_ne C (tgt := 75) dX3_bottlesWorth_47 rfl (by first | assumption | exact rgm (by omega) (by omega)) (fun h47 => ?_) (fun h47 => ?_)
      · refine r_iinc C dX3_bottlesWorth_75 rfl (by decide) rfl ?_
        dsimp only [List.set, Nat.reduceAdd]
        refine r_goto C (tgt := 13) dX3_bottlesWorth_78 rfl ?_
        exact ih _ _ _ (by rw [hst, if_neg (by intro h; exact h47 (hs.1.mpr h.1.1))]; exact hbest0) (by omega) hbc hbr (by omega) _ _
      · refine r_iload C rfl dX3_bottlesWorth_50 ?_
        refine r_iload_n C rfl dX3_bottlesWorth_52 ?_
        refine r_icmp_lt C (tgt := 75) dX3_bottlesWorth_53 rfl (by first | assumption | exact rgm (by omega) (by omega)) (by first | assumption | exact rgm (by omega) (by omega)) (fun h53 => ?_) (fun h53 => ?_)
        · refine r_iinc C dX3_bottlesWorth_75 rfl (by decide) rfl ?_
          dsimp only [List.set, Nat.reduceAdd]
          refine r_goto C (tgt := 13) dX3_bottlesWorth_78 rfl ?_
          exact ih _ _ _ (by rw [hst, if_neg (by intro h; omega)]; exact hbest0) (by omega) hbc hbr (by omega) _ _
        · refine r_iload_n C rfl dX3_bottlesWorth_56 ?_
          refine r_iconst C dX3_bottlesWorth_57 ?_
          refine r_icmp_eq C (tgt := 68) dX3_bottlesWorth_58 rfl (by first | assumption | exact rgm (by omega) (by omega)) (by first | assumption | exact rgm (by omega) (by omega)) (fun h58 => ?_) (fun h58 => ?_)
          · refine r_iload C rfl dX3_bottlesWorth_68 ?_
            refine r_istore_n C dX3_bottlesWorth_70 3 rfl (by decide) rfl ?_
            dsimp only [List.set, Nat.reduceAdd]
            refine r_iload C rfl dX3_bottlesWorth_71 ?_
            refine r_istore C dX3_bottlesWorth_73 4 rfl (by decide) rfl ?_
            dsimp only [List.set, Nat.reduceAdd]
            refine r_iinc C dX3_bottlesWorth_75 rfl (by decide) rfl ?_
            dsimp only [List.set, Nat.reduceAdd]
            refine r_goto C (tgt := 13) dX3_bottlesWorth_78 rfl ?_
            exact ih _ _ _ (by rw [hst, if_pos ⟨⟨hs.1.mp h47, by omega⟩, (Or.inl (by omega))⟩]) (by omega) (Or.inr rfl) (by omega) (by omega) _ _
          · refine r_iload C rfl dX3_bottlesWorth_61 ?_
            refine r_iload C rfl dX3_bottlesWorth_63 ?_
            refine r_icmp_ge C (tgt := 75) dX3_bottlesWorth_65 rfl (by first | assumption | exact rgm (by omega) (by omega)) (by first | assumption | exact rgm (by omega) (by omega)) (fun h65 => ?_) (fun h65 => ?_)
            · refine r_iinc C dX3_bottlesWorth_75 rfl (by decide) rfl ?_
              dsimp only [List.set, Nat.reduceAdd]
              refine r_goto C (tgt := 13) dX3_bottlesWorth_78 rfl ?_
              exact ih _ _ _ (by rw [hst, if_neg (by intro h; rcases h.2 with h | h; omega; rw [← hbest0] at h; rcases hbc with hbc | hbc; omega; unfold cst at h hbc; omega)]; exact hbest0) (by omega) hbc hbr (by omega) _ _
            · refine r_iload C rfl dX3_bottlesWorth_68 ?_
              refine r_istore_n C dX3_bottlesWorth_70 3 rfl (by decide) rfl ?_
              dsimp only [List.set, Nat.reduceAdd]
              refine r_iload C rfl dX3_bottlesWorth_71 ?_
              refine r_istore C dX3_bottlesWorth_73 4 rfl (by decide) rfl ?_
              dsimp only [List.set, Nat.reduceAdd]
              refine r_iinc C dX3_bottlesWorth_75 rfl (by decide) rfl ?_
              dsimp only [List.set, Nat.reduceAdd]
              refine r_goto C (tgt := 13) dX3_bottlesWorth_78 rfl ?_
              exact ih _ _ _ (by rw [hst, if_pos ⟨⟨hs.1.mp h47, by omega⟩, (Or.inr (by rw [← hbest0]; rcases hbc with hbc | hbc; omega; unfold cst at hbc ⊢; omega))⟩]) (by omega) (Or.inr rfl) (by omega) (by omega) _ _
  refine r_aload_n C rfl dX3_bottlesWorth_0 ?_
  refine r_cVz C dX3_bottlesWorth_1 vw_X3_81 (c_fullBottles M hb) (by decide) rfl ly_8 rfl rfl (Nat.le_of_ble_eq_true rfl) ?_
  refine r_istore_n C dX3_bottlesWorth_4 2 rfl (by decide) rfl ?_
  dsimp only [List.set, Nat.reduceAdd]
  refine r_iconst C dX3_bottlesWorth_5 ?_
  refine r_istore_n C dX3_bottlesWorth_6 3 rfl (by decide) rfl ?_
  dsimp only [List.set, Nat.reduceAdd]
  refine r_iconst C dX3_bottlesWorth_7 ?_
  refine r_istore C dX3_bottlesWorth_8 4 rfl (by decide) rfl ?_
  dsimp only [List.set, Nat.reduceAdd]
  refine r_iconst C dX3_bottlesWorth_10 ?_
  refine r_istore C dX3_bottlesWorth_11 5 rfl (by decide) rfl ?_
  dsimp only [List.set, Nat.reduceAdd]
  have h0 : hd4 (M.1 12) ((0 : Nat) : Int) = 0 := by simp [hd4, sm, bt]
  have h1 : bw (M.1 12) lack 1 = -1 := by
    show (if _ then _ else _) = (-1 : Int)
    rw [if_neg (by intro h; have h2 := h.1.2; rw [h0] at h2; omega)]
    rfl
  exact lp 1 (by omega) _ _ _ h1.symm rfl (Or.inl rfl) (by omega) (by omega) _ _
set_option maxRecDepth 10000 in
set_option maxHeartbeats 1000000 in
theorem c_isSet (M : Mm_) {k : Nat} (hk : k < 6) (h0 : 0 ≤ M.1 8 8) (h1 : M.1 8 8 < 64) : Cn 0 kX3_isSet [.ref 8, .int (zI k)] M (pB (bt (M.1 8 8) k = 1) M) := by
  refine Cn.of rfl (Nat.le_of_ble_eq_true rfl) (fun G C E => ?_)
  show G 0 [.ref 8, .int (zI (k : Int))] [] M
  have hdv := dv_b k h0
  have hbt : M.1 8 8 / 2 ^ k % 2 = bt (M.1 8 8) k := rfl
  have hb2 := bt_b (M.1 8 8) k
  refine r_aload_n C rfl dX3_isSet_0 ?_
  refine r_geti C dX3_isSet_1 fl_X3_50 ly_8 rfl ?_
  refine r_iload_n C rfl dX3_isSet_4 ?_
  refine r_ishr C (v := M.1 8 8 / 2 ^ k) (zb_shr h0 (by omega) (by omega)) dX3_isSet_5 ?_
  refine r_iconst C dX3_isSet_6 ?_
  refine r_iand C (v := M.1 8 8 / 2 ^ k % 2) (zb_and1 (by omega) (by omega)) dX3_isSet_7 ?_
  refine r_if_eq C (tgt := 15) dX3_isSet_8 rfl (by first | assumption | exact rgm (by omega) (by omega)) (fun h8 => ?_) (fun h8 => ?_)
  · refine r_iconst C dX3_isSet_15 ?_
    exact r_zret E dX3_isSet_16 (by decide) (pB_f (by omega))
  · refine r_iconst C dX3_isSet_11 ?_
    refine r_goto C (tgt := 16) dX3_isSet_12 rfl ?_
    exact r_zret E dX3_isSet_16 (by decide) (pB_t (by omega))
set_option maxRecDepth 10000 in
set_option maxHeartbeats 1000000 in
theorem c_addDrop (M : Mm_) {v q : Int} (h0 : 0 ≤ M.1 8 7) (h1 : M.1 8 7 < 4) : Cn 0 kX3_addDrop [.ref 8, .int (zI v), .int (zI q)] M (pV (mU (mU (mU M 13 (M.1 8 7).toNat v) 14 (M.1 8 7).toNat q) 8 7 (M.1 8 7 + 1))) := by
  refine Cn.of rfl (Nat.le_of_ble_eq_true rfl) (fun G C E => ?_)
  show G 0 [.ref 8, .int (zI v), .int (zI q)] [] M
  obtain ⟨c, hc⟩ := Int.eq_ofNat_of_zero_le h0
  refine r_aload_n C rfl dX3_addDrop_0 ?_
  refine r_geti C dX3_addDrop_1 fl_X3_47 ly_8 rfl ?_
  refine r_iconst C dX3_addDrop_4 ?_
  refine r_icmp_ge C (tgt := 38) dX3_addDrop_5 rfl (by first | assumption | exact rgm (by omega) (by omega)) (by first | assumption | exact rgm (by omega) (by omega)) (fun h5 => absurd h5 (by omega)) (fun h5 => ?_)
  refine r_aload_n C rfl dX3_addDrop_8 ?_
  refine r_getr C dX3_addDrop_9 fl_X3_24 ly_8 rfl ?_
  refine r_aload_n C rfl dX3_addDrop_12 ?_
  refine r_geti C dX3_addDrop_13 fl_X3_47 ly_8 rfl ?_
  refine r_iload_n C rfl dX3_addDrop_16 ?_
  refine r_iast C dX3_addDrop_17 ly_13 hc (by omega) ?_
  refine r_aload_n C rfl dX3_addDrop_18 ?_
  refine r_getr C dX3_addDrop_19 fl_X3_27 ly_8 rfl ?_
  refine r_aload_n C rfl dX3_addDrop_22 ?_
  refine r_geti C dX3_addDrop_23 fl_X3_47 ly_8 rfl ?_
  refine r_iload_n C rfl dX3_addDrop_26 ?_
  refine r_iast C dX3_addDrop_27 ly_14 (by simpa [mU] using hc) (by omega) ?_
  refine r_aload_n C rfl dX3_addDrop_28 ?_
  refine r_dup C rfl dX3_addDrop_29 ?_
  refine r_geti C dX3_addDrop_30 fl_X3_47 ly_8 rfl ?_
  refine r_iconst C dX3_addDrop_33 ?_
  refine r_iadd C dX3_addDrop_34 ?_
  refine r_put C dX3_addDrop_35 fl_X3_47 rfl (Or.inl rfl) ly_8 rfl ?_
  exact r_vret E dX3_addDrop_38 (by refine ⟨rfl, ?_⟩; simp [mU, hc])
set_option maxRecDepth 10000 in
set_option maxHeartbeats 1000000 in
theorem c_sumOf (M : Mm_) {a n : Nat} {cs : List Nat} (ha : lyT[a]? = some (0, n, cs)) : Cn 0 kX3_sumOf [.ref a] M (pZ (sm (M.1 a) n) M) := by
  have hn := lyT_m ha
  refine Cn.of rfl (Nat.le_of_ble_eq_true rfl) (fun G C E => ?_)
  show G 0 [.ref a, .null, .null, .null, .null, .null] [] M
  have lp : ∀ i, i ≤ n → ∀ (s z : Int) (v5 : Value), s = sm (M.1 a) i → z = i → G 10 [.ref a, .int (zI s), .ref a, .int (zI n), .int (zI z), v5] [] M := by
    refine lpN n ?_ ?_
    · intro s z v5 hs hz
      refine r_iload C rfl dX3_sumOf_10 ?_
      refine r_iload_n C rfl dX3_sumOf_12 ?_
      refine r_icmp_ge C (tgt := 33) dX3_sumOf_13 rfl (by first | assumption | exact rgm (by omega) (by omega)) (by first | assumption | exact rgm (by omega) (by omega)) (fun h13 => ?_) (fun h13 => absurd h13 (by omega))
      refine r_iload_n C rfl dX3_sumOf_33 ?_
      exact r_iret E dX3_sumOf_34 (pZ_of hs)
    · intro i hi ih s z v5 hs hz
      refine r_iload C rfl dX3_sumOf_10 ?_
      refine r_iload_n C rfl dX3_sumOf_12 ?_
      refine r_icmp_ge C (tgt := 33) dX3_sumOf_13 rfl (by first | assumption | exact rgm (by omega) (by omega)) (by first | assumption | exact rgm (by omega) (by omega)) (fun h13 => absurd h13 (by omega)) (fun h13 => ?_)
      refine r_aload_n C rfl dX3_sumOf_16 ?_
      refine r_iload C rfl dX3_sumOf_17 ?_
      refine r_iald C dX3_sumOf_19 ha hz (by omega) ?_
      refine r_istore C dX3_sumOf_20 5 rfl (by decide) rfl ?_
      dsimp only [List.set, Nat.reduceAdd]
      refine r_iload_n C rfl dX3_sumOf_22 ?_
      refine r_iload C rfl dX3_sumOf_23 ?_
      refine r_iadd C dX3_sumOf_25 ?_
      refine r_istore_n C dX3_sumOf_26 1 rfl (by decide) rfl ?_
      dsimp only [List.set, Nat.reduceAdd]
      refine r_iinc C dX3_sumOf_27 rfl (by decide) rfl ?_
      dsimp only [List.set, Nat.reduceAdd]
      refine r_goto C (tgt := 10) dX3_sumOf_30 rfl ?_
      exact ih _ _ _ (by simp only [sm]; omega) (by omega)
  refine r_iconst C dX3_sumOf_0 ?_
  refine r_istore_n C dX3_sumOf_1 1 rfl (by decide) rfl ?_
  dsimp only [List.set, Nat.reduceAdd]
  refine r_aload_n C rfl dX3_sumOf_2 ?_
  refine r_astore_n C dX3_sumOf_3 2 rfl (by decide) rfl ?_
  dsimp only [List.set, Nat.reduceAdd]
  refine r_aload_n C rfl dX3_sumOf_4 ?_
  refine r_alen C dX3_sumOf_5 ha ?_
  refine r_istore_n C dX3_sumOf_6 3 rfl (by decide) rfl ?_
  dsimp only [List.set, Nat.reduceAdd]
  refine r_iconst C dX3_sumOf_7 ?_
  refine r_istore C dX3_sumOf_8 4 rfl (by decide) rfl ?_
  dsimp only [List.set, Nat.reduceAdd]
  exact lp 0 (by omega) _ _ _ rfl rfl
set_option maxRecDepth 10000 in
set_option maxHeartbeats 1000000 in
theorem c_allGrudges8 (M : Mm_) : Cn 1 kX3_allGrudges [.ref 8] M (pZ (sm (M.1 9) 4) M) := by
  refine Cn.of rfl (Nat.le_of_ble_eq_true rfl) (fun G C E => ?_)
  show G 0 [.ref 8] [] M
  refine r_aload_n C rfl dX3_allGrudges_0 ?_
  refine r_getr C dX3_allGrudges_1 fl_X3_9 ly_8 rfl ?_
  refine r_cSz C dX3_allGrudges_4 sw_X3_77 (c_sumOf M ly_9) (by decide) rfl rfl (Nat.le_of_ble_eq_true rfl) ?_
  exact r_iret E dX3_allGrudges_7 (pZ_of rfl)
set_option maxRecDepth 10000 in
set_option maxHeartbeats 1000000 in
theorem c_allGrudges30 (M : Mm_) : Cn 1 kX3_allGrudges [.ref 30] M (pZ (sm (M.1 31) 4) M) := by
  refine Cn.of rfl (Nat.le_of_ble_eq_true rfl) (fun G C E => ?_)
  show G 0 [.ref 30] [] M
  refine r_aload_n C rfl dX3_allGrudges_0 ?_
  refine r_getr C dX3_allGrudges_1 fl_X3_9 ly_30 rfl ?_
  refine r_cSz C dX3_allGrudges_4 sw_X3_77 (c_sumOf M ly_31) (by decide) rfl rfl (Nat.le_of_ble_eq_true rfl) ?_
  exact r_iret E dX3_allGrudges_7 (pZ_of rfl)
set_option maxRecDepth 10000 in
set_option maxHeartbeats 1000000 in
theorem c_allSlights8 (M : Mm_) : Cn 1 kX3_allSlights [.ref 8] M (pZ (sm (M.1 11) 4) M) := by
  refine Cn.of rfl (Nat.le_of_ble_eq_true rfl) (fun G C E => ?_)
  show G 0 [.ref 8] [] M
  refine r_aload_n C rfl dX3_allSlights_0 ?_
  refine r_getr C dX3_allSlights_1 fl_X3_18 ly_8 rfl ?_
  refine r_cSz C dX3_allSlights_4 sw_X3_77 (c_sumOf M ly_11) (by decide) rfl rfl (Nat.le_of_ble_eq_true rfl) ?_
  exact r_iret E dX3_allSlights_7 (pZ_of rfl)

def mClear (M : Mm_) : Mm_ := mU (mU (mU (mU (mU (mR (mR (mR (mR M 9 (fun _ => 0)) 10 (fun _ => 0)) 11 (fun _ => 0)) 12 (fun _ => 0)) 15 3 0) 8 7 0) 8 8 0) 8 9 0) 8 10 0
def mForces (M : Mm_) (a b : Nat) : Mm_ := mU (mR (mR (mR (mR M (b + 1) (M.1 (a + 1))) (b + 2) (M.1 (a + 2))) (b + 5) (M.1 (a + 5))) (b + 6) (M.1 (a + 6))) b 7 (M.1 a 7)
def mSeen (M : Mm_) (a b : Nat) : Mm_ := mU (mR (mR (mR M (b + 1) (M.1 (a + 1))) (b + 2) (M.1 (a + 2))) (b + 3) (M.1 (a + 3))) b 3 (M.1 a 3)

set_option maxRecDepth 10000 in
set_option maxHeartbeats 1000000 in
theorem c_clear (M : Mm_) : Cn 1 kX3_clear [.ref 8] M (pV (mClear M)) := by
  refine Cn.of rfl (Nat.le_of_ble_eq_true rfl) (fun G C E => ?_)
  show G 0 [.ref 8] [] M
  refine r_aload_n C rfl dX3_clear_0 ?_
  refine r_getr C dX3_clear_1 fl_X3_9 ly_8 rfl ?_
  refine r_iconst C dX3_clear_4 ?_
  refine r_cSv C dX3_clear_5 sw_X3_37 (c_fill M ly_9) (by decide) rfl rfl (Nat.le_of_ble_eq_true rfl) ?_
  refine r_aload_n C rfl dX3_clear_8 ?_
  refine r_getr C dX3_clear_9 fl_X3_15 ly_8 rfl ?_
  refine r_iconst C dX3_clear_12 ?_
  refine r_cSv C dX3_clear_13 sw_X3_37 (c_fill _ ly_10) (by decide) rfl rfl (Nat.le_of_ble_eq_true rfl) ?_
  refine r_aload_n C rfl dX3_clear_16 ?_
  refine r_getr C dX3_clear_17 fl_X3_18 ly_8 rfl ?_
  refine r_iconst C dX3_clear_20 ?_
  refine r_cSv C dX3_clear_21 sw_X3_37 (c_fill _ ly_11) (by decide) rfl rfl (Nat.le_of_ble_eq_true rfl) ?_
  refine r_aload_n C rfl dX3_clear_24 ?_
  refine r_getr C dX3_clear_25 fl_X3_21 ly_8 rfl ?_
  refine r_iconst C dX3_clear_28 ?_
  refine r_cSv C dX3_clear_29 sw_X3_37 (c_fill _ ly_12) (by decide) rfl rfl (Nat.le_of_ble_eq_true rfl) ?_
  refine r_aload_n C rfl dX3_clear_32 ?_
  refine r_getr C dX3_clear_33 fl_X3_33 ly_8 rfl ?_
  refine r_iconst C dX3_clear_36 ?_
  refine r_put C dX3_clear_37 fl_X3_43 rfl (Or.inl rfl) ly_15 rfl ?_
  refine r_aload_n C rfl dX3_clear_40 ?_
  refine r_iconst C dX3_clear_41 ?_
  refine r_put C dX3_clear_42 fl_X3_47 rfl (Or.inl rfl) ly_8 rfl ?_
  refine r_aload_n C rfl dX3_clear_45 ?_
  refine r_iconst C dX3_clear_46 ?_
  refine r_put C dX3_clear_47 fl_X3_50 rfl (Or.inl rfl) ly_8 rfl ?_
  refine r_aload_n C rfl dX3_clear_50 ?_
  refine r_iconst C dX3_clear_51 ?_
  refine r_put C dX3_clear_52 fl_X3_53 rfl (Or.inl rfl) ly_8 rfl ?_
  refine r_aload_n C rfl dX3_clear_55 ?_
  refine r_iconst C dX3_clear_56 ?_
  refine r_put C dX3_clear_57 fl_X3_56 rfl (Or.inl rfl) ly_8 rfl ?_
  exact r_vret E dX3_clear_60 pV_of
set_option maxRecDepth 10000 in
set_option maxHeartbeats 1000000 in
theorem c_copyForces_8_30 (M : Mm_) : Cn 1 kX3_copyForcesFrom [.ref 30, .ref 8] M (pV (mForces M 8 30)) := by
  refine Cn.of rfl (Nat.le_of_ble_eq_true rfl) (fun G C E => ?_)
  show G 0 [.ref 30, .ref 8] [] M
  refine r_aload_n C rfl dX3_copyForcesFrom_0 ?_
  refine r_getr C dX3_copyForcesFrom_1 fl_X3_9 ly_8 rfl ?_
  refine r_iconst C dX3_copyForcesFrom_4 ?_
  refine r_aload_n C rfl dX3_copyForcesFrom_5 ?_
  refine r_getr C dX3_copyForcesFrom_6 fl_X3_9 ly_30 rfl ?_
  refine r_iconst C dX3_copyForcesFrom_9 ?_
  refine r_iconst C dX3_copyForcesFrom_10 ?_
  refine r_copy C dX3_copyForcesFrom_11 ml_X3_59 sc_na sc_st sc_in (by decide) (Nat.le_of_ble_eq_true rfl) ly_9 ly_31 rfl rfl rfl (by decide) (by decide) ?_
  refine r_ext C (eqM_copy (n := 4) rfl) ?_
  refine r_aload_n C rfl dX3_copyForcesFrom_14 ?_
  refine r_getr C dX3_copyForcesFrom_15 fl_X3_15 ly_8 rfl ?_
  refine r_iconst C dX3_copyForcesFrom_18 ?_
  refine r_aload_n C rfl dX3_copyForcesFrom_19 ?_
  refine r_getr C dX3_copyForcesFrom_20 fl_X3_15 ly_30 rfl ?_
  refine r_iconst C dX3_copyForcesFrom_23 ?_
  refine r_iconst C dX3_copyForcesFrom_24 ?_
  refine r_copy C dX3_copyForcesFrom_25 ml_X3_59 sc_na sc_st sc_in (by decide) (Nat.le_of_ble_eq_true rfl) ly_10 ly_32 rfl rfl rfl (by decide) (by decide) ?_
  refine r_ext C (eqM_copy (n := 4) rfl) ?_
  refine r_aload_n C rfl dX3_copyForcesFrom_28 ?_
  refine r_getr C dX3_copyForcesFrom_29 fl_X3_24 ly_8 rfl ?_
  refine r_iconst C dX3_copyForcesFrom_32 ?_
  refine r_aload_n C rfl dX3_copyForcesFrom_33 ?_
  refine r_getr C dX3_copyForcesFrom_34 fl_X3_24 ly_30 rfl ?_
  refine r_iconst C dX3_copyForcesFrom_37 ?_
  refine r_iconst C dX3_copyForcesFrom_38 ?_
  refine r_copy C dX3_copyForcesFrom_39 ml_X3_59 sc_na sc_st sc_in (by decide) (Nat.le_of_ble_eq_true rfl) ly_13 ly_35 rfl rfl rfl (by decide) (by decide) ?_
  refine r_ext C (eqM_copy (n := 4) rfl) ?_
  refine r_aload_n C rfl dX3_copyForcesFrom_42 ?_
  refine r_getr C dX3_copyForcesFrom_43 fl_X3_27 ly_8 rfl ?_
  refine r_iconst C dX3_copyForcesFrom_46 ?_
  refine r_aload_n C rfl dX3_copyForcesFrom_47 ?_
  refine r_getr C dX3_copyForcesFrom_48 fl_X3_27 ly_30 rfl ?_
  refine r_iconst C dX3_copyForcesFrom_51 ?_
  refine r_iconst C dX3_copyForcesFrom_52 ?_
  refine r_copy C dX3_copyForcesFrom_53 ml_X3_59 sc_na sc_st sc_in (by decide) (Nat.le_of_ble_eq_true rfl) ly_14 ly_36 rfl rfl rfl (by decide) (by decide) ?_
  refine r_ext C (eqM_copy (n := 4) rfl) ?_
  refine r_aload_n C rfl dX3_copyForcesFrom_56 ?_
  refine r_aload_n C rfl dX3_copyForcesFrom_57 ?_
  refine r_geti C dX3_copyForcesFrom_58 fl_X3_47 ly_8 rfl ?_
  refine r_put C dX3_copyForcesFrom_61 fl_X3_47 rfl (Or.inl rfl) ly_30 rfl ?_
  exact r_vret E dX3_copyForcesFrom_64 ⟨rfl, rfl⟩
set_option maxRecDepth 10000 in
set_option maxHeartbeats 1000000 in
theorem c_copyForces_8_19 (M : Mm_) : Cn 1 kX3_copyForcesFrom [.ref 19, .ref 8] M (pV (mForces M 8 19)) := by
  refine Cn.of rfl (Nat.le_of_ble_eq_true rfl) (fun G C E => ?_)
  show G 0 [.ref 19, .ref 8] [] M
  refine r_aload_n C rfl dX3_copyForcesFrom_0 ?_
  refine r_getr C dX3_copyForcesFrom_1 fl_X3_9 ly_8 rfl ?_
  refine r_iconst C dX3_copyForcesFrom_4 ?_
  refine r_aload_n C rfl dX3_copyForcesFrom_5 ?_
  refine r_getr C dX3_copyForcesFrom_6 fl_X3_9 ly_19 rfl ?_
  refine r_iconst C dX3_copyForcesFrom_9 ?_
  refine r_iconst C dX3_copyForcesFrom_10 ?_
  refine r_copy C dX3_copyForcesFrom_11 ml_X3_59 sc_na sc_st sc_in (by decide) (Nat.le_of_ble_eq_true rfl) ly_9 ly_20 rfl rfl rfl (by decide) (by decide) ?_
  refine r_ext C (eqM_copy (n := 4) rfl) ?_
  refine r_aload_n C rfl dX3_copyForcesFrom_14 ?_
  refine r_getr C dX3_copyForcesFrom_15 fl_X3_15 ly_8 rfl ?_
  refine r_iconst C dX3_copyForcesFrom_18 ?_
  refine r_aload_n C rfl dX3_copyForcesFrom_19 ?_
  refine r_getr C dX3_copyForcesFrom_20 fl_X3_15 ly_19 rfl ?_
  refine r_iconst C dX3_copyForcesFrom_23 ?_
  refine r_iconst C dX3_copyForcesFrom_24 ?_
  refine r_copy C dX3_copyForcesFrom_25 ml_X3_59 sc_na sc_st sc_in (by decide) (Nat.le_of_ble_eq_true rfl) ly_10 ly_21 rfl rfl rfl (by decide) (by decide) ?_
  refine r_ext C (eqM_copy (n := 4) rfl) ?_
  refine r_aload_n C rfl dX3_copyForcesFrom_28 ?_
  refine r_getr C dX3_copyForcesFrom_29 fl_X3_24 ly_8 rfl ?_
  refine r_iconst C dX3_copyForcesFrom_32 ?_
  refine r_aload_n C rfl dX3_copyForcesFrom_33 ?_
  refine r_getr C dX3_copyForcesFrom_34 fl_X3_24 ly_19 rfl ?_
  refine r_iconst C dX3_copyForcesFrom_37 ?_
  refine r_iconst C dX3_copyForcesFrom_38 ?_
  refine r_copy C dX3_copyForcesFrom_39 ml_X3_59 sc_na sc_st sc_in (by decide) (Nat.le_of_ble_eq_true rfl) ly_13 ly_24 rfl rfl rfl (by decide) (by decide) ?_
  refine r_ext C (eqM_copy (n := 4) rfl) ?_
  refine r_aload_n C rfl dX3_copyForcesFrom_42 ?_
  refine r_getr C dX3_copyForcesFrom_43 fl_X3_27 ly_8 rfl ?_
  refine r_iconst C dX3_copyForcesFrom_46 ?_
  refine r_aload_n C rfl dX3_copyForcesFrom_47 ?_
  refine r_getr C dX3_copyForcesFrom_48 fl_X3_27 ly_19 rfl ?_
  refine r_iconst C dX3_copyForcesFrom_51 ?_
  refine r_iconst C dX3_copyForcesFrom_52 ?_
  refine r_copy C dX3_copyForcesFrom_53 ml_X3_59 sc_na sc_st sc_in (by decide) (Nat.le_of_ble_eq_true rfl) ly_14 ly_25 rfl rfl rfl (by decide) (by decide) ?_
  refine r_ext C (eqM_copy (n := 4) rfl) ?_
  refine r_aload_n C rfl dX3_copyForcesFrom_56 ?_
  refine r_aload_n C rfl dX3_copyForcesFrom_57 ?_
  refine r_geti C dX3_copyForcesFrom_58 fl_X3_47 ly_8 rfl ?_
  refine r_put C dX3_copyForcesFrom_61 fl_X3_47 rfl (Or.inl rfl) ly_19 rfl ?_
  exact r_vret E dX3_copyForcesFrom_64 ⟨rfl, rfl⟩
set_option maxRecDepth 10000 in
set_option maxHeartbeats 1000000 in
theorem c_copyForces_19_8 (M : Mm_) : Cn 1 kX3_copyForcesFrom [.ref 8, .ref 19] M (pV (mForces M 19 8)) := by
  refine Cn.of rfl (Nat.le_of_ble_eq_true rfl) (fun G C E => ?_)
  show G 0 [.ref 8, .ref 19] [] M
  refine r_aload_n C rfl dX3_copyForcesFrom_0 ?_
  refine r_getr C dX3_copyForcesFrom_1 fl_X3_9 ly_19 rfl ?_
  refine r_iconst C dX3_copyForcesFrom_4 ?_
  refine r_aload_n C rfl dX3_copyForcesFrom_5 ?_
  refine r_getr C dX3_copyForcesFrom_6 fl_X3_9 ly_8 rfl ?_
  refine r_iconst C dX3_copyForcesFrom_9 ?_
  refine r_iconst C dX3_copyForcesFrom_10 ?_
  refine r_copy C dX3_copyForcesFrom_11 ml_X3_59 sc_na sc_st sc_in (by decide) (Nat.le_of_ble_eq_true rfl) ly_20 ly_9 rfl rfl rfl (by decide) (by decide) ?_
  refine r_ext C (eqM_copy (n := 4) rfl) ?_
  refine r_aload_n C rfl dX3_copyForcesFrom_14 ?_
  refine r_getr C dX3_copyForcesFrom_15 fl_X3_15 ly_19 rfl ?_
  refine r_iconst C dX3_copyForcesFrom_18 ?_
  refine r_aload_n C rfl dX3_copyForcesFrom_19 ?_
  refine r_getr C dX3_copyForcesFrom_20 fl_X3_15 ly_8 rfl ?_
  refine r_iconst C dX3_copyForcesFrom_23 ?_
  refine r_iconst C dX3_copyForcesFrom_24 ?_
  refine r_copy C dX3_copyForcesFrom_25 ml_X3_59 sc_na sc_st sc_in (by decide) (Nat.le_of_ble_eq_true rfl) ly_21 ly_10 rfl rfl rfl (by decide) (by decide) ?_
  refine r_ext C (eqM_copy (n := 4) rfl) ?_
  refine r_aload_n C rfl dX3_copyForcesFrom_28 ?_
  refine r_getr C dX3_copyForcesFrom_29 fl_X3_24 ly_19 rfl ?_
  refine r_iconst C dX3_copyForcesFrom_32 ?_
  refine r_aload_n C rfl dX3_copyForcesFrom_33 ?_
  refine r_getr C dX3_copyForcesFrom_34 fl_X3_24 ly_8 rfl ?_
  refine r_iconst C dX3_copyForcesFrom_37 ?_
  refine r_iconst C dX3_copyForcesFrom_38 ?_
  refine r_copy C dX3_copyForcesFrom_39 ml_X3_59 sc_na sc_st sc_in (by decide) (Nat.le_of_ble_eq_true rfl) ly_24 ly_13 rfl rfl rfl (by decide) (by decide) ?_
  refine r_ext C (eqM_copy (n := 4) rfl) ?_
  refine r_aload_n C rfl dX3_copyForcesFrom_42 ?_
  refine r_getr C dX3_copyForcesFrom_43 fl_X3_27 ly_19 rfl ?_
  refine r_iconst C dX3_copyForcesFrom_46 ?_
  refine r_aload_n C rfl dX3_copyForcesFrom_47 ?_
  refine r_getr C dX3_copyForcesFrom_48 fl_X3_27 ly_8 rfl ?_
  refine r_iconst C dX3_copyForcesFrom_51 ?_
  refine r_iconst C dX3_copyForcesFrom_52 ?_
  refine r_copy C dX3_copyForcesFrom_53 ml_X3_59 sc_na sc_st sc_in (by decide) (Nat.le_of_ble_eq_true rfl) ly_25 ly_14 rfl rfl rfl (by decide) (by decide) ?_
  refine r_ext C (eqM_copy (n := 4) rfl) ?_
  refine r_aload_n C rfl dX3_copyForcesFrom_56 ?_
  refine r_aload_n C rfl dX3_copyForcesFrom_57 ?_
  refine r_geti C dX3_copyForcesFrom_58 fl_X3_47 ly_19 rfl ?_
  refine r_put C dX3_copyForcesFrom_61 fl_X3_47 rfl (Or.inl rfl) ly_8 rfl ?_
  exact r_vret E dX3_copyForcesFrom_64 ⟨rfl, rfl⟩
set_option maxRecDepth 10000 in
set_option maxHeartbeats 1000000 in
theorem c_seenCopy_15_26 (M : Mm_) : Cn 1 kX2_copyFrom [.ref 26, .ref 15] M (pV (mSeen M 15 26)) := by
  refine Cn.of rfl (Nat.le_of_ble_eq_true rfl) (fun G C E => ?_)
  show G 0 [.ref 26, .ref 15] [] M
  refine r_aload_n C rfl dX2_copyFrom_0 ?_
  refine r_getr C dX2_copyFrom_1 fl_X2_9 ly_15 rfl ?_
  refine r_iconst C dX2_copyFrom_4 ?_
  refine r_aload_n C rfl dX2_copyFrom_5 ?_
  refine r_getr C dX2_copyFrom_6 fl_X2_9 ly_26 rfl ?_
  refine r_iconst C dX2_copyFrom_9 ?_
  refine r_bipush C rfl dX2_copyFrom_10 ?_
  refine r_copy C dX2_copyFrom_12 ml_X2_25 sc_na sc_st sc_in (by decide) (Nat.le_of_ble_eq_true rfl) ly_16 ly_27 rfl rfl rfl (by decide) (by decide) ?_
  refine r_ext C (eqM_copy (n := 6) rfl) ?_
  refine r_aload_n C rfl dX2_copyFrom_15 ?_
  refine r_getr C dX2_copyFrom_16 fl_X2_15 ly_15 rfl ?_
  refine r_iconst C dX2_copyFrom_19 ?_
  refine r_aload_n C rfl dX2_copyFrom_20 ?_
  refine r_getr C dX2_copyFrom_21 fl_X2_15 ly_26 rfl ?_
  refine r_iconst C dX2_copyFrom_24 ?_
  refine r_bipush C rfl dX2_copyFrom_25 ?_
  refine r_copy C dX2_copyFrom_27 ml_X2_25 sc_na sc_st sc_in (by decide) (Nat.le_of_ble_eq_true rfl) ly_17 ly_28 rfl rfl rfl (by decide) (by decide) ?_
  refine r_ext C (eqM_copy (n := 6) rfl) ?_
  refine r_aload_n C rfl dX2_copyFrom_30 ?_
  refine r_getr C dX2_copyFrom_31 fl_X2_18 ly_15 rfl ?_
  refine r_iconst C dX2_copyFrom_34 ?_
  refine r_aload_n C rfl dX2_copyFrom_35 ?_
  refine r_getr C dX2_copyFrom_36 fl_X2_18 ly_26 rfl ?_
  refine r_iconst C dX2_copyFrom_39 ?_
  refine r_bipush C rfl dX2_copyFrom_40 ?_
  refine r_copy C dX2_copyFrom_42 ml_X2_25 sc_na sc_st sc_in (by decide) (Nat.le_of_ble_eq_true rfl) ly_18 ly_29 rfl rfl rfl (by decide) (by decide) ?_
  refine r_ext C (eqM_copy (n := 6) rfl) ?_
  refine r_aload_n C rfl dX2_copyFrom_45 ?_
  refine r_aload_n C rfl dX2_copyFrom_46 ?_
  refine r_geti C dX2_copyFrom_47 fl_X2_21 ly_15 rfl ?_
  refine r_put C dX2_copyFrom_50 fl_X2_21 rfl (Or.inl rfl) ly_26 rfl ?_
  exact r_vret E dX2_copyFrom_53 ⟨rfl, rfl⟩
set_option maxRecDepth 10000 in
set_option maxHeartbeats 1000000 in
theorem c_seenCopy_26_15 (M : Mm_) : Cn 1 kX2_copyFrom [.ref 15, .ref 26] M (pV (mSeen M 26 15)) := by
  refine Cn.of rfl (Nat.le_of_ble_eq_true rfl) (fun G C E => ?_)
  show G 0 [.ref 15, .ref 26] [] M
  refine r_aload_n C rfl dX2_copyFrom_0 ?_
  refine r_getr C dX2_copyFrom_1 fl_X2_9 ly_26 rfl ?_
  refine r_iconst C dX2_copyFrom_4 ?_
  refine r_aload_n C rfl dX2_copyFrom_5 ?_
  refine r_getr C dX2_copyFrom_6 fl_X2_9 ly_15 rfl ?_
  refine r_iconst C dX2_copyFrom_9 ?_
  refine r_bipush C rfl dX2_copyFrom_10 ?_
  refine r_copy C dX2_copyFrom_12 ml_X2_25 sc_na sc_st sc_in (by decide) (Nat.le_of_ble_eq_true rfl) ly_27 ly_16 rfl rfl rfl (by decide) (by decide) ?_
  refine r_ext C (eqM_copy (n := 6) rfl) ?_
  refine r_aload_n C rfl dX2_copyFrom_15 ?_
  refine r_getr C dX2_copyFrom_16 fl_X2_15 ly_26 rfl ?_
  refine r_iconst C dX2_copyFrom_19 ?_
  refine r_aload_n C rfl dX2_copyFrom_20 ?_
  refine r_getr C dX2_copyFrom_21 fl_X2_15 ly_15 rfl ?_
  refine r_iconst C dX2_copyFrom_24 ?_
  refine r_bipush C rfl dX2_copyFrom_25 ?_
  refine r_copy C dX2_copyFrom_27 ml_X2_25 sc_na sc_st sc_in (by decide) (Nat.le_of_ble_eq_true rfl) ly_28 ly_17 rfl rfl rfl (by decide) (by decide) ?_
  refine r_ext C (eqM_copy (n := 6) rfl) ?_
  refine r_aload_n C rfl dX2_copyFrom_30 ?_
  refine r_getr C dX2_copyFrom_31 fl_X2_18 ly_26 rfl ?_
  refine r_iconst C dX2_copyFrom_34 ?_
  refine r_aload_n C rfl dX2_copyFrom_35 ?_
  refine r_getr C dX2_copyFrom_36 fl_X2_18 ly_15 rfl ?_
  refine r_iconst C dX2_copyFrom_39 ?_
  refine r_bipush C rfl dX2_copyFrom_40 ?_
  refine r_copy C dX2_copyFrom_42 ml_X2_25 sc_na sc_st sc_in (by decide) (Nat.le_of_ble_eq_true rfl) ly_29 ly_18 rfl rfl rfl (by decide) (by decide) ?_
  refine r_ext C (eqM_copy (n := 6) rfl) ?_
  refine r_aload_n C rfl dX2_copyFrom_45 ?_
  refine r_aload_n C rfl dX2_copyFrom_46 ?_
  refine r_geti C dX2_copyFrom_47 fl_X2_21 ly_26 rfl ?_
  refine r_put C dX2_copyFrom_50 fl_X2_21 rfl (Or.inl rfl) ly_15 rfl ?_
  exact r_vret E dX2_copyFrom_53 ⟨rfl, rfl⟩

def mAll (M : Mm_) (a b : Nat) : Mm_ := mForces (mU (mU (mU (mSeen (mR (mR M (b + 3) (M.1 (a + 3))) (b + 4) (M.1 (a + 4))) (a + 7) (b + 7)) b 8 (M.1 a 8)) b 9 (M.1 a 9)) b 10 (M.1 a 10)) a b

set_option maxRecDepth 10000 in
set_option maxHeartbeats 1000000 in
theorem c_copyFrom_8_19 (M : Mm_) : Cn 2 kX3_copyFrom [.ref 19, .ref 8] M (pV (mAll M 8 19)) := by
  refine Cn.of rfl (Nat.le_of_ble_eq_true rfl) (fun G C E => ?_)
  show G 0 [.ref 19, .ref 8] [] M
  refine r_aload_n C rfl dX3_copyFrom_0 ?_
  refine r_getr C dX3_copyFrom_1 fl_X3_18 ly_8 rfl ?_
  refine r_iconst C dX3_copyFrom_4 ?_
  refine r_aload_n C rfl dX3_copyFrom_5 ?_
  refine r_getr C dX3_copyFrom_6 fl_X3_18 ly_19 rfl ?_
  refine r_iconst C dX3_copyFrom_9 ?_
  refine r_iconst C dX3_copyFrom_10 ?_
  refine r_copy C dX3_copyFrom_11 ml_X3_59 sc_na sc_st sc_in (by decide) (Nat.le_of_ble_eq_true rfl) ly_11 ly_22 rfl rfl rfl (by decide) (by decide) ?_
  refine r_ext C (eqM_copy (n := 4) rfl) ?_
  refine r_aload_n C rfl dX3_copyFrom_14 ?_
  refine r_getr C dX3_copyFrom_15 fl_X3_21 ly_8 rfl ?_
  refine r_iconst C dX3_copyFrom_18 ?_
  refine r_aload_n C rfl dX3_copyFrom_19 ?_
  refine r_getr C dX3_copyFrom_20 fl_X3_21 ly_19 rfl ?_
  refine r_iconst C dX3_copyFrom_23 ?_
  refine r_iconst C dX3_copyFrom_24 ?_
  refine r_copy C dX3_copyFrom_25 ml_X3_59 sc_na sc_st sc_in (by decide) (Nat.le_of_ble_eq_true rfl) ly_12 ly_23 rfl rfl rfl (by decide) (by decide) ?_
  refine r_ext C (eqM_copy (n := 4) rfl) ?_
  refine r_aload_n C rfl dX3_copyFrom_28 ?_
  refine r_getr C dX3_copyFrom_29 fl_X3_33 ly_19 rfl ?_
  refine r_aload_n C rfl dX3_copyFrom_32 ?_
  refine r_getr C dX3_copyFrom_33 fl_X3_33 ly_8 rfl ?_
  refine r_cVv C dX3_copyFrom_36 vw_X3_65 (c_seenCopy_15_26 _) (by decide) rfl ly_26 rfl rfl (Nat.le_of_ble_eq_true rfl) ?_
  refine r_aload_n C rfl dX3_copyFrom_39 ?_
  refine r_aload_n C rfl dX3_copyFrom_40 ?_
  refine r_geti C dX3_copyFrom_41 fl_X3_50 ly_8 rfl ?_
  refine r_put C dX3_copyFrom_44 fl_X3_50 rfl (Or.inl rfl) ly_19 rfl ?_
  refine r_aload_n C rfl dX3_copyFrom_47 ?_
  refine r_aload_n C rfl dX3_copyFrom_48 ?_
  refine r_geti C dX3_copyFrom_49 fl_X3_53 ly_8 rfl ?_
  refine r_put C dX3_copyFrom_52 fl_X3_53 rfl (Or.inl rfl) ly_19 rfl ?_
  refine r_aload_n C rfl dX3_copyFrom_55 ?_
  refine r_aload_n C rfl dX3_copyFrom_56 ?_
  refine r_geti C dX3_copyFrom_57 fl_X3_56 ly_8 rfl ?_
  refine r_put C dX3_copyFrom_60 fl_X3_56 rfl (Or.inl rfl) ly_19 rfl ?_
  refine r_aload_n C rfl dX3_copyFrom_63 ?_
  refine r_aload_n C rfl dX3_copyFrom_64 ?_
  refine r_cVv C dX3_copyFrom_65 vw_X3_69 (c_copyForces_8_19 _) (by decide) rfl ly_19 rfl rfl (Nat.le_of_ble_eq_true rfl) ?_
  exact r_vret E dX3_copyFrom_68 ⟨rfl, rfl⟩
set_option maxRecDepth 10000 in
set_option maxHeartbeats 1000000 in
theorem c_copyFrom_19_8 (M : Mm_) : Cn 2 kX3_copyFrom [.ref 8, .ref 19] M (pV (mAll M 19 8)) := by
  refine Cn.of rfl (Nat.le_of_ble_eq_true rfl) (fun G C E => ?_)
  show G 0 [.ref 8, .ref 19] [] M
  refine r_aload_n C rfl dX3_copyFrom_0 ?_
  refine r_getr C dX3_copyFrom_1 fl_X3_18 ly_19 rfl ?_
  refine r_iconst C dX3_copyFrom_4 ?_
  refine r_aload_n C rfl dX3_copyFrom_5 ?_
  refine r_getr C dX3_copyFrom_6 fl_X3_18 ly_8 rfl ?_
  refine r_iconst C dX3_copyFrom_9 ?_
  refine r_iconst C dX3_copyFrom_10 ?_
  refine r_copy C dX3_copyFrom_11 ml_X3_59 sc_na sc_st sc_in (by decide) (Nat.le_of_ble_eq_true rfl) ly_22 ly_11 rfl rfl rfl (by decide) (by decide) ?_
  refine r_ext C (eqM_copy (n := 4) rfl) ?_
  refine r_aload_n C rfl dX3_copyFrom_14 ?_
  refine r_getr C dX3_copyFrom_15 fl_X3_21 ly_19 rfl ?_
  refine r_iconst C dX3_copyFrom_18 ?_
  refine r_aload_n C rfl dX3_copyFrom_19 ?_
  refine r_getr C dX3_copyFrom_20 fl_X3_21 ly_8 rfl ?_
  refine r_iconst C dX3_copyFrom_23 ?_
  refine r_iconst C dX3_copyFrom_24 ?_
  refine r_copy C dX3_copyFrom_25 ml_X3_59 sc_na sc_st sc_in (by decide) (Nat.le_of_ble_eq_true rfl) ly_23 ly_12 rfl rfl rfl (by decide) (by decide) ?_
  refine r_ext C (eqM_copy (n := 4) rfl) ?_
  refine r_aload_n C rfl dX3_copyFrom_28 ?_
  refine r_getr C dX3_copyFrom_29 fl_X3_33 ly_8 rfl ?_
  refine r_aload_n C rfl dX3_copyFrom_32 ?_
  refine r_getr C dX3_copyFrom_33 fl_X3_33 ly_19 rfl ?_
  refine r_cVv C dX3_copyFrom_36 vw_X3_65 (c_seenCopy_26_15 _) (by decide) rfl ly_15 rfl rfl (Nat.le_of_ble_eq_true rfl) ?_
  refine r_aload_n C rfl dX3_copyFrom_39 ?_
  refine r_aload_n C rfl dX3_copyFrom_40 ?_
  refine r_geti C dX3_copyFrom_41 fl_X3_50 ly_19 rfl ?_
  refine r_put C dX3_copyFrom_44 fl_X3_50 rfl (Or.inl rfl) ly_8 rfl ?_
  refine r_aload_n C rfl dX3_copyFrom_47 ?_
  refine r_aload_n C rfl dX3_copyFrom_48 ?_
  refine r_geti C dX3_copyFrom_49 fl_X3_53 ly_19 rfl ?_
  refine r_put C dX3_copyFrom_52 fl_X3_53 rfl (Or.inl rfl) ly_8 rfl ?_
  refine r_aload_n C rfl dX3_copyFrom_55 ?_
  refine r_aload_n C rfl dX3_copyFrom_56 ?_
  refine r_geti C dX3_copyFrom_57 fl_X3_56 ly_19 rfl ?_
  refine r_put C dX3_copyFrom_60 fl_X3_56 rfl (Or.inl rfl) ly_8 rfl ?_
  refine r_aload_n C rfl dX3_copyFrom_63 ?_
  refine r_aload_n C rfl dX3_copyFrom_64 ?_
  refine r_cVv C dX3_copyFrom_65 vw_X3_69 (c_copyForces_19_8 _) (by decide) rfl ly_8 rfl rfl (Nat.le_of_ble_eq_true rfl) ?_
  exact r_vret E dX3_copyFrom_68 ⟨rfl, rfl⟩
